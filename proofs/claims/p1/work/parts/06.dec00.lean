theorem dX8_add_0 : decode cX8_add 0 = .ok (.aload_n 0, 1) := by decide +kernel
theorem dX8_add_1 : decode cX8_add 1 = .ok (.getfield 15, 3) := by decide +kernel
theorem dX8_add_4 : decode cX8_add 4 = .ok (.bipush 76, 2) := by decide +kernel
theorem dX8_add_6 : decode cX8_add 6 = .ok (.if_icmp .le 5, 3) := by decide +kernel
theorem dX8_add_9 : decode cX8_add 9 = .ok (.iconst (-1), 1) := by decide +kernel
theorem dX8_add_10 : decode cX8_add 10 = .ok (.ireturn, 1) := by decide +kernel
theorem dX8_add_11 : decode cX8_add 11 = .ok (.bipush 24, 2) := by decide +kernel
theorem dX8_add_13 : decode cX8_add 13 = .ok (.istore_n 2, 1) := by decide +kernel
theorem dX8_add_14 : decode cX8_add 14 = .ok (.iload_n 2, 1) := by decide +kernel
theorem dX8_add_15 : decode cX8_add 15 = .ok (.ifCond .lt 36, 3) := by decide +kernel
theorem dX8_add_18 : decode cX8_add 18 = .ok (.aload_n 0, 1) := by decide +kernel
theorem dX8_add_19 : decode cX8_add 19 = .ok (.getfield 11, 3) := by decide +kernel
theorem dX8_add_22 : decode cX8_add 22 = .ok (.aload_n 0, 1) := by decide +kernel
theorem dX8_add_23 : decode cX8_add 23 = .ok (.getfield 15, 3) := by decide +kernel
theorem dX8_add_26 : decode cX8_add 26 = .ok (.iload_n 1, 1) := by decide +kernel
theorem dX8_add_27 : decode cX8_add 27 = .ok (.iload_n 2, 1) := by decide +kernel
theorem dX8_add_28 : decode cX8_add 28 = .ok (.iushr, 1) := by decide +kernel
theorem dX8_add_29 : decode cX8_add 29 = .ok (.sipush 255, 3) := by decide +kernel
theorem dX8_add_32 : decode cX8_add 32 = .ok (.iand, 1) := by decide +kernel
theorem dX8_add_33 : decode cX8_add 33 = .ok (.i2c, 1) := by decide +kernel
theorem dX8_add_34 : decode cX8_add 34 = .ok (.castore, 1) := by decide +kernel
theorem dX8_add_35 : decode cX8_add 35 = .ok (.aload_n 0, 1) := by decide +kernel
theorem dX8_add_36 : decode cX8_add 36 = .ok (.dup, 1) := by decide +kernel
theorem dX8_add_37 : decode cX8_add 37 = .ok (.getfield 15, 3) := by decide +kernel
theorem dX8_add_40 : decode cX8_add 40 = .ok (.iconst 1, 1) := by decide +kernel
theorem dX8_add_41 : decode cX8_add 41 = .ok (.iadd, 1) := by decide +kernel
theorem dX8_add_42 : decode cX8_add 42 = .ok (.putfield 15, 3) := by decide +kernel
theorem dX8_add_45 : decode cX8_add 45 = .ok (.iinc 2 (-8), 3) := by decide +kernel
theorem dX8_add_48 : decode cX8_add 48 = .ok (.goto (-34), 3) := by decide +kernel
theorem dX8_add_51 : decode cX8_add 51 = .ok (.aload_n 0, 1) := by decide +kernel
theorem dX8_add_52 : decode cX8_add 52 = .ok (.getfield 15, 3) := by decide +kernel
theorem dX8_add_55 : decode cX8_add 55 = .ok (.ireturn, 1) := by decide +kernel
theorem dX9_sign_0 : decode cX9_sign 0 = .ok (.aload_n 0, 1) := by decide +kernel
theorem dX9_sign_1 : decode cX9_sign 1 = .ok (.getfield 10, 3) := by decide +kernel
theorem dX9_sign_4 : decode cX9_sign 4 = .ok (.iload_n 1, 1) := by decide +kernel
theorem dX9_sign_5 : decode cX9_sign 5 = .ok (.invokevirtual 65, 3) := by decide +kernel
theorem dX9_sign_8 : decode cX9_sign 8 = .ok (.ireturn, 1) := by decide +kernel
theorem dX8_cut_0 : decode cX8_cut 0 = .ok (.iload_n 1, 1) := by decide +kernel
theorem dX8_cut_1 : decode cX8_cut 1 = .ok (.ifCond .lt 11, 3) := by decide +kernel
theorem dX8_cut_4 : decode cX8_cut 4 = .ok (.iload_n 1, 1) := by decide +kernel
theorem dX8_cut_5 : decode cX8_cut 5 = .ok (.aload_n 0, 1) := by decide +kernel
theorem dX8_cut_6 : decode cX8_cut 6 = .ok (.getfield 15, 3) := by decide +kernel
theorem dX8_cut_9 : decode cX8_cut 9 = .ok (.if_icmp .le 5, 3) := by decide +kernel
theorem dX8_cut_12 : decode cX8_cut 12 = .ok (.iconst 0, 1) := by decide +kernel
theorem dX8_cut_13 : decode cX8_cut 13 = .ok (.ireturn, 1) := by decide +kernel
theorem dX8_cut_14 : decode cX8_cut 14 = .ok (.aload_n 0, 1) := by decide +kernel
theorem dX8_cut_15 : decode cX8_cut 15 = .ok (.iload_n 1, 1) := by decide +kernel
theorem dX8_cut_16 : decode cX8_cut 16 = .ok (.putfield 15, 3) := by decide +kernel
theorem dX8_cut_19 : decode cX8_cut 19 = .ok (.iconst 1, 1) := by decide +kernel
theorem dX8_cut_20 : decode cX8_cut 20 = .ok (.ireturn, 1) := by decide +kernel
theorem dX9_end_0 : decode cX9_end 0 = .ok (.aload_n 0, 1) := by decide +kernel
theorem dX9_end_1 : decode cX9_end 1 = .ok (.getfield 10, 3) := by decide +kernel
theorem dX9_end_4 : decode cX9_end 4 = .ok (.iload_n 1, 1) := by decide +kernel
theorem dX9_end_5 : decode cX9_end 5 = .ok (.invokevirtual 69, 3) := by decide +kernel
theorem dX9_end_8 : decode cX9_end 8 = .ok (.ireturn, 1) := by decide +kernel
theorem dX8_open_0 : decode cX8_open 0 = .ok (.aload_n 0, 1) := by decide +kernel
theorem dX8_open_1 : decode cX8_open 1 = .ok (.iconst 0, 1) := by decide +kernel
theorem dX8_open_2 : decode cX8_open 2 = .ok (.putfield 19, 3) := by decide +kernel
theorem dX8_open_5 : decode cX8_open 5 = .ok (.aload_n 0, 1) := by decide +kernel
theorem dX8_open_6 : decode cX8_open 6 = .ok (.aload_n 0, 1) := by decide +kernel
theorem dX8_open_7 : decode cX8_open 7 = .ok (.getfield 15, 3) := by decide +kernel
theorem dX8_open_10 : decode cX8_open 10 = .ok (.iload_n 1, 1) := by decide +kernel
theorem dX8_open_11 : decode cX8_open 11 = .ok (.invokestatic 22, 3) := by decide +kernel
theorem dX8_open_14 : decode cX8_open 14 = .ok (.putfield 28, 3) := by decide +kernel
theorem dX8_open_17 : decode cX8_open 17 = .ok (.return_, 1) := by decide +kernel
theorem dX8_isThrough_0 : decode cX8_isThrough 0 = .ok (.aload_n 0, 1) := by decide +kernel
theorem dX8_isThrough_1 : decode cX8_isThrough 1 = .ok (.getfield 19, 3) := by decide +kernel
theorem dX8_isThrough_4 : decode cX8_isThrough 4 = .ok (.aload_n 0, 1) := by decide +kernel
theorem dX8_isThrough_5 : decode cX8_isThrough 5 = .ok (.getfield 15, 3) := by decide +kernel
theorem dX8_isThrough_8 : decode cX8_isThrough 8 = .ok (.if_icmp .ne 7, 3) := by decide +kernel
theorem dX8_isThrough_11 : decode cX8_isThrough 11 = .ok (.iconst 1, 1) := by decide +kernel
theorem dX8_isThrough_12 : decode cX8_isThrough 12 = .ok (.goto 4, 3) := by decide +kernel
theorem dX8_isThrough_15 : decode cX8_isThrough 15 = .ok (.iconst 0, 1) := by decide +kernel
theorem dX8_isThrough_16 : decode cX8_isThrough 16 = .ok (.ireturn, 1) := by decide +kernel
theorem dX3_takeLines_0 : decode cX3_takeLines 0 = .ok (.aload_n 0, 1) := by decide +kernel
theorem dX3_takeLines_1 : decode cX3_takeLines 1 = .ok (.aload_n 0, 1) := by decide +kernel
theorem dX3_takeLines_2 : decode cX3_takeLines 2 = .ok (.getfield 44, 3) := by decide +kernel
theorem dX3_takeLines_5 : decode cX3_takeLines 5 = .ok (.putfield 33, 3) := by decide +kernel
theorem dX3_takeLines_8 : decode cX3_takeLines 8 = .ok (.aload_n 0, 1) := by decide +kernel
theorem dX3_takeLines_9 : decode cX3_takeLines 9 = .ok (.aload_n 0, 1) := by decide +kernel
theorem dX3_takeLines_10 : decode cX3_takeLines 10 = .ok (.getfield 47, 3) := by decide +kernel
theorem dX3_takeLines_13 : decode cX3_takeLines 13 = .ok (.putfield 37, 3) := by decide +kernel
theorem dX3_takeLines_16 : decode cX3_takeLines 16 = .ok (.return_, 1) := by decide +kernel
theorem dX4_forgetAll_0 : decode cX4_forgetAll 0 = .ok (.aload_n 0, 1) := by decide +kernel
theorem dX4_forgetAll_1 : decode cX4_forgetAll 1 = .ok (.iconst 0, 1) := by decide +kernel
theorem dX4_forgetAll_2 : decode cX4_forgetAll 2 = .ok (.putfield 30, 3) := by decide +kernel
theorem dX4_forgetAll_5 : decode cX4_forgetAll 5 = .ok (.iconst 0, 1) := by decide +kernel
theorem dX4_forgetAll_6 : decode cX4_forgetAll 6 = .ok (.istore_n 1, 1) := by decide +kernel
theorem dX4_forgetAll_7 : decode cX4_forgetAll 7 = .ok (.iload_n 1, 1) := by decide +kernel
theorem dX4_forgetAll_8 : decode cX4_forgetAll 8 = .ok (.iconst 2, 1) := by decide +kernel
theorem dX4_forgetAll_9 : decode cX4_forgetAll 9 = .ok (.if_icmp .ge 16, 3) := by decide +kernel
theorem dX4_forgetAll_12 : decode cX4_forgetAll 12 = .ok (.aload_n 0, 1) := by decide +kernel
theorem dX4_forgetAll_13 : decode cX4_forgetAll 13 = .ok (.getfield 18, 3) := by decide +kernel
theorem dX4_forgetAll_16 : decode cX4_forgetAll 16 = .ok (.iload_n 1, 1) := by decide +kernel
theorem dX4_forgetAll_17 : decode cX4_forgetAll 17 = .ok (.iconst 0, 1) := by decide +kernel
theorem dX4_forgetAll_18 : decode cX4_forgetAll 18 = .ok (.bastore, 1) := by decide +kernel
theorem dX4_forgetAll_19 : decode cX4_forgetAll 19 = .ok (.iinc 1 1, 3) := by decide +kernel
theorem dX4_forgetAll_22 : decode cX4_forgetAll 22 = .ok (.goto (-15), 3) := by decide +kernel
theorem dX4_forgetAll_25 : decode cX4_forgetAll 25 = .ok (.return_, 1) := by decide +kernel
theorem dX8_clear_0 : decode cX8_clear 0 = .ok (.aload_n 0, 1) := by decide +kernel
theorem dX8_clear_1 : decode cX8_clear 1 = .ok (.iconst 0, 1) := by decide +kernel
theorem dX8_clear_2 : decode cX8_clear 2 = .ok (.putfield 15, 3) := by decide +kernel
theorem dX8_clear_5 : decode cX8_clear 5 = .ok (.return_, 1) := by decide +kernel
theorem dX8_wrong_0 : decode cX8_wrong 0 = .ok (.iconst (-1), 1) := by decide +kernel
theorem dX8_wrong_1 : decode cX8_wrong 1 = .ok (.aload_n 0, 1) := by decide +kernel
theorem dX8_wrong_2 : decode cX8_wrong 2 = .ok (.getfield 19, 3) := by decide +kernel
theorem dX8_wrong_5 : decode cX8_wrong 5 = .ok (.isub, 1) := by decide +kernel
theorem dX8_wrong_6 : decode cX8_wrong 6 = .ok (.ireturn, 1) := by decide +kernel
theorem dX8_here_0 : decode cX8_here 0 = .ok (.aload_n 0, 1) := by decide +kernel
theorem dX8_here_1 : decode cX8_here 1 = .ok (.getfield 19, 3) := by decide +kernel
theorem dX8_here_4 : decode cX8_here 4 = .ok (.aload_n 0, 1) := by decide +kernel
theorem dX8_here_5 : decode cX8_here 5 = .ok (.getfield 28, 3) := by decide +kernel
theorem dX8_here_8 : decode cX8_here 8 = .ok (.if_icmp .ge 15, 3) := by decide +kernel
theorem dX8_here_11 : decode cX8_here 11 = .ok (.aload_n 0, 1) := by decide +kernel
theorem dX8_here_12 : decode cX8_here 12 = .ok (.getfield 11, 3) := by decide +kernel
theorem dX8_here_15 : decode cX8_here 15 = .ok (.aload_n 0, 1) := by decide +kernel
theorem dX8_here_16 : decode cX8_here 16 = .ok (.getfield 19, 3) := by decide +kernel
theorem dX8_here_19 : decode cX8_here 19 = .ok (.caload, 1) := by decide +kernel
theorem dX8_here_20 : decode cX8_here 20 = .ok (.goto 4, 3) := by decide +kernel
theorem dX8_here_23 : decode cX8_here 23 = .ok (.iconst (-1), 1) := by decide +kernel
theorem dX8_here_24 : decode cX8_here 24 = .ok (.ireturn, 1) := by decide +kernel
theorem dX8_skip_0 : decode cX8_skip 0 = .ok (.aload_n 0, 1) := by decide +kernel
theorem dX8_skip_1 : decode cX8_skip 1 = .ok (.getfield 19, 3) := by decide +kernel
theorem dX8_skip_4 : decode cX8_skip 4 = .ok (.aload_n 0, 1) := by decide +kernel
theorem dX8_skip_5 : decode cX8_skip 5 = .ok (.getfield 28, 3) := by decide +kernel
theorem dX8_skip_8 : decode cX8_skip 8 = .ok (.if_icmp .ge 13, 3) := by decide +kernel
theorem dX8_skip_11 : decode cX8_skip 11 = .ok (.aload_n 0, 1) := by decide +kernel
theorem dX8_skip_12 : decode cX8_skip 12 = .ok (.dup, 1) := by decide +kernel
theorem dX8_skip_13 : decode cX8_skip 13 = .ok (.getfield 19, 3) := by decide +kernel
theorem dX8_skip_16 : decode cX8_skip 16 = .ok (.iconst 1, 1) := by decide +kernel
theorem dX8_skip_17 : decode cX8_skip 17 = .ok (.iadd, 1) := by decide +kernel
theorem dX8_skip_18 : decode cX8_skip 18 = .ok (.putfield 19, 3) := by decide +kernel
theorem dX8_skip_21 : decode cX8_skip 21 = .ok (.return_, 1) := by decide +kernel
theorem dX8_digitHere_0 : decode cX8_digitHere 0 = .ok (.aload_n 0, 1) := by decide +kernel
theorem dX8_digitHere_1 : decode cX8_digitHere 1 = .ok (.getfield 19, 3) := by decide +kernel
theorem dX8_digitHere_4 : decode cX8_digitHere 4 = .ok (.aload_n 0, 1) := by decide +kernel
theorem dX8_digitHere_5 : decode cX8_digitHere 5 = .ok (.getfield 28, 3) := by decide +kernel
theorem dX8_digitHere_8 : decode cX8_digitHere 8 = .ok (.if_icmp .ge 15, 3) := by decide +kernel
theorem dX8_digitHere_11 : decode cX8_digitHere 11 = .ok (.aload_n 0, 1) := by decide +kernel
theorem dX8_digitHere_12 : decode cX8_digitHere 12 = .ok (.getfield 11, 3) := by decide +kernel
theorem dX8_digitHere_15 : decode cX8_digitHere 15 = .ok (.aload_n 0, 1) := by decide +kernel
theorem dX8_digitHere_16 : decode cX8_digitHere 16 = .ok (.getfield 19, 3) := by decide +kernel
theorem dX8_digitHere_19 : decode cX8_digitHere 19 = .ok (.caload, 1) := by decide +kernel
theorem dX8_digitHere_20 : decode cX8_digitHere 20 = .ok (.goto 4, 3) := by decide +kernel
theorem dX8_digitHere_23 : decode cX8_digitHere 23 = .ok (.iconst (-1), 1) := by decide +kernel
theorem dX8_digitHere_24 : decode cX8_digitHere 24 = .ok (.istore_n 1, 1) := by decide +kernel
theorem dX8_digitHere_25 : decode cX8_digitHere 25 = .ok (.iload_n 1, 1) := by decide +kernel
theorem dX8_digitHere_26 : decode cX8_digitHere 26 = .ok (.bipush 48, 2) := by decide +kernel
theorem dX8_digitHere_28 : decode cX8_digitHere 28 = .ok (.if_icmp .lt 16, 3) := by decide +kernel
theorem dX8_digitHere_31 : decode cX8_digitHere 31 = .ok (.iload_n 1, 1) := by decide +kernel
theorem dX8_digitHere_32 : decode cX8_digitHere 32 = .ok (.bipush 57, 2) := by decide +kernel
theorem dX8_digitHere_34 : decode cX8_digitHere 34 = .ok (.if_icmp .gt 10, 3) := by decide +kernel
theorem dX8_digitHere_37 : decode cX8_digitHere 37 = .ok (.iload_n 1, 1) := by decide +kernel
theorem dX8_digitHere_38 : decode cX8_digitHere 38 = .ok (.bipush 48, 2) := by decide +kernel
theorem dX8_digitHere_40 : decode cX8_digitHere 40 = .ok (.isub, 1) := by decide +kernel
theorem dX8_digitHere_41 : decode cX8_digitHere 41 = .ok (.goto 4, 3) := by decide +kernel
theorem dX8_digitHere_44 : decode cX8_digitHere 44 = .ok (.iconst (-1), 1) := by decide +kernel
theorem dX8_digitHere_45 : decode cX8_digitHere 45 = .ok (.ireturn, 1) := by decide +kernel
theorem dX8_readNumber_0 : decode cX8_readNumber 0 = .ok (.aload_n 0, 1) := by decide +kernel
theorem dX8_readNumber_1 : decode cX8_readNumber 1 = .ok (.invokevirtual 35, 3) := by decide +kernel
theorem dX8_readNumber_4 : decode cX8_readNumber 4 = .ok (.istore_n 2, 1) := by decide +kernel
theorem dX8_readNumber_5 : decode cX8_readNumber 5 = .ok (.iload_n 2, 1) := by decide +kernel
theorem dX8_readNumber_6 : decode cX8_readNumber 6 = .ok (.iconst (-1), 1) := by decide +kernel
theorem dX8_readNumber_7 : decode cX8_readNumber 7 = .ok (.if_icmp .ne 5, 3) := by decide +kernel
theorem dX8_readNumber_10 : decode cX8_readNumber 10 = .ok (.iconst (-1), 1) := by decide +kernel
theorem dX8_readNumber_11 : decode cX8_readNumber 11 = .ok (.ireturn, 1) := by decide +kernel
theorem dX8_readNumber_12 : decode cX8_readNumber 12 = .ok (.aload_n 0, 1) := by decide +kernel
theorem dX8_readNumber_13 : decode cX8_readNumber 13 = .ok (.invokevirtual 38, 3) := by decide +kernel
theorem dX8_readNumber_16 : decode cX8_readNumber 16 = .ok (.iconst 1, 1) := by decide +kernel
theorem dX8_readNumber_17 : decode cX8_readNumber 17 = .ok (.istore_n 3, 1) := by decide +kernel
theorem dX8_readNumber_18 : decode cX8_readNumber 18 = .ok (.iload_n 3, 1) := by decide +kernel
theorem dX8_readNumber_19 : decode cX8_readNumber 19 = .ok (.iload_n 1, 1) := by decide +kernel
theorem dX8_readNumber_20 : decode cX8_readNumber 20 = .ok (.if_icmp .ge 36, 3) := by decide +kernel
theorem dX8_readNumber_23 : decode cX8_readNumber 23 = .ok (.aload_n 0, 1) := by decide +kernel
theorem dX8_readNumber_24 : decode cX8_readNumber 24 = .ok (.invokevirtual 35, 3) := by decide +kernel
theorem dX8_readNumber_27 : decode cX8_readNumber 27 = .ok (.istore 4, 2) := by decide +kernel
theorem dX8_readNumber_29 : decode cX8_readNumber 29 = .ok (.iload 4, 2) := by decide +kernel
theorem dX8_readNumber_31 : decode cX8_readNumber 31 = .ok (.iconst (-1), 1) := by decide +kernel
theorem dX8_readNumber_32 : decode cX8_readNumber 32 = .ok (.if_icmp .ne 6, 3) := by decide +kernel
theorem dX8_readNumber_35 : decode cX8_readNumber 35 = .ok (.goto 21, 3) := by decide +kernel
theorem dX8_readNumber_38 : decode cX8_readNumber 38 = .ok (.iload_n 2, 1) := by decide +kernel
theorem dX8_readNumber_39 : decode cX8_readNumber 39 = .ok (.bipush 10, 2) := by decide +kernel
theorem dX8_readNumber_41 : decode cX8_readNumber 41 = .ok (.imul, 1) := by decide +kernel
theorem dX8_readNumber_42 : decode cX8_readNumber 42 = .ok (.iload 4, 2) := by decide +kernel
theorem dX8_readNumber_44 : decode cX8_readNumber 44 = .ok (.iadd, 1) := by decide +kernel
theorem dX8_readNumber_45 : decode cX8_readNumber 45 = .ok (.istore_n 2, 1) := by decide +kernel
theorem dX8_readNumber_46 : decode cX8_readNumber 46 = .ok (.aload_n 0, 1) := by decide +kernel
theorem dX8_readNumber_47 : decode cX8_readNumber 47 = .ok (.invokevirtual 38, 3) := by decide +kernel
theorem dX8_readNumber_50 : decode cX8_readNumber 50 = .ok (.iinc 3 1, 3) := by decide +kernel
theorem dX8_readNumber_53 : decode cX8_readNumber 53 = .ok (.goto (-35), 3) := by decide +kernel
theorem dX8_readNumber_56 : decode cX8_readNumber 56 = .ok (.iload_n 2, 1) := by decide +kernel
theorem dX8_readNumber_57 : decode cX8_readNumber 57 = .ok (.ireturn, 1) := by decide +kernel
theorem dX8_take_0 : decode cX8_take 0 = .ok (.aload_n 0, 1) := by decide +kernel
theorem dX8_take_1 : decode cX8_take 1 = .ok (.invokevirtual 31, 3) := by decide +kernel
theorem dX8_take_4 : decode cX8_take 4 = .ok (.iload_n 1, 1) := by decide +kernel
theorem dX8_take_5 : decode cX8_take 5 = .ok (.if_icmp .eq 5, 3) := by decide +kernel
theorem dX8_take_8 : decode cX8_take 8 = .ok (.iconst 0, 1) := by decide +kernel
theorem dX8_take_9 : decode cX8_take 9 = .ok (.ireturn, 1) := by decide +kernel
theorem dX8_take_10 : decode cX8_take 10 = .ok (.aload_n 0, 1) := by decide +kernel
theorem dX8_take_11 : decode cX8_take 11 = .ok (.dup, 1) := by decide +kernel
theorem dX8_take_12 : decode cX8_take 12 = .ok (.getfield 19, 3) := by decide +kernel
theorem dX8_take_15 : decode cX8_take 15 = .ok (.iconst 1, 1) := by decide +kernel
theorem dX8_take_16 : decode cX8_take 16 = .ok (.iadd, 1) := by decide +kernel
theorem dX8_take_17 : decode cX8_take 17 = .ok (.putfield 19, 3) := by decide +kernel
theorem dX8_take_20 : decode cX8_take 20 = .ok (.iconst 1, 1) := by decide +kernel
theorem dX8_take_21 : decode cX8_take 21 = .ok (.ireturn, 1) := by decide +kernel
theorem dX3_readPair_0 : decode cX3_readPair 0 = .ok (.aload_n 0, 1) := by decide +kernel
theorem dX3_readPair_1 : decode cX3_readPair 1 = .ok (.iconst 2, 1) := by decide +kernel
theorem dX3_readPair_2 : decode cX3_readPair 2 = .ok (.invokevirtual 76, 3) := by decide +kernel
theorem dX3_readPair_5 : decode cX3_readPair 5 = .ok (.istore 4, 2) := by decide +kernel
theorem dX3_readPair_7 : decode cX3_readPair 7 = .ok (.iload 4, 2) := by decide +kernel
theorem dX3_readPair_9 : decode cX3_readPair 9 = .ok (.iconst (-1), 1) := by decide +kernel
theorem dX3_readPair_10 : decode cX3_readPair 10 = .ok (.if_icmp .eq 12, 3) := by decide +kernel
theorem dX3_readPair_13 : decode cX3_readPair 13 = .ok (.aload_n 0, 1) := by decide +kernel
theorem dX3_readPair_14 : decode cX3_readPair 14 = .ok (.bipush 44, 2) := by decide +kernel
theorem dX3_readPair_16 : decode cX3_readPair 16 = .ok (.invokevirtual 54, 3) := by decide +kernel
theorem dX3_readPair_19 : decode cX3_readPair 19 = .ok (.ifCond .ne 5, 3) := by decide +kernel
theorem dX3_readPair_22 : decode cX3_readPair 22 = .ok (.iconst 0, 1) := by decide +kernel
theorem dX3_readPair_23 : decode cX3_readPair 23 = .ok (.ireturn, 1) := by decide +kernel
theorem dX3_readPair_24 : decode cX3_readPair 24 = .ok (.aload_n 0, 1) := by decide +kernel
theorem dX3_readPair_25 : decode cX3_readPair 25 = .ok (.iconst 2, 1) := by decide +kernel
theorem dX3_readPair_26 : decode cX3_readPair 26 = .ok (.invokevirtual 76, 3) := by decide +kernel
theorem dX3_readPair_29 : decode cX3_readPair 29 = .ok (.istore 5, 2) := by decide +kernel
theorem dX3_readPair_31 : decode cX3_readPair 31 = .ok (.iload 5, 2) := by decide +kernel
theorem dX3_readPair_33 : decode cX3_readPair 33 = .ok (.iconst (-1), 1) := by decide +kernel
theorem dX3_readPair_34 : decode cX3_readPair 34 = .ok (.if_icmp .eq 19, 3) := by decide +kernel
theorem dX3_readPair_37 : decode cX3_readPair 37 = .ok (.iload_n 3, 1) := by decide +kernel
theorem dX3_readPair_38 : decode cX3_readPair 38 = .ok (.ifCond .lt 15, 3) := by decide +kernel
theorem dX3_readPair_41 : decode cX3_readPair 41 = .ok (.iload_n 3, 1) := by decide +kernel
theorem dX3_readPair_42 : decode cX3_readPair 42 = .ok (.aload_n 1, 1) := by decide +kernel
theorem dX3_readPair_43 : decode cX3_readPair 43 = .ok (.arraylength, 1) := by decide +kernel
theorem dX3_readPair_44 : decode cX3_readPair 44 = .ok (.if_icmp .ge 9, 3) := by decide +kernel
theorem dX3_readPair_47 : decode cX3_readPair 47 = .ok (.iload_n 3, 1) := by decide +kernel
theorem dX3_readPair_48 : decode cX3_readPair 48 = .ok (.aload_n 2, 1) := by decide +kernel
theorem dX3_readPair_49 : decode cX3_readPair 49 = .ok (.arraylength, 1) := by decide +kernel
theorem dX3_readPair_50 : decode cX3_readPair 50 = .ok (.if_icmp .lt 5, 3) := by decide +kernel
theorem dX3_readPair_53 : decode cX3_readPair 53 = .ok (.iconst 0, 1) := by decide +kernel
theorem dX3_readPair_54 : decode cX3_readPair 54 = .ok (.ireturn, 1) := by decide +kernel
theorem dX3_readPair_55 : decode cX3_readPair 55 = .ok (.aload_n 1, 1) := by decide +kernel
theorem dX3_readPair_56 : decode cX3_readPair 56 = .ok (.iload_n 3, 1) := by decide +kernel
theorem dX3_readPair_57 : decode cX3_readPair 57 = .ok (.iload 4, 2) := by decide +kernel
theorem dX3_readPair_59 : decode cX3_readPair 59 = .ok (.iastore, 1) := by decide +kernel
theorem dX3_readPair_60 : decode cX3_readPair 60 = .ok (.aload_n 2, 1) := by decide +kernel
theorem dX3_readPair_61 : decode cX3_readPair 61 = .ok (.iload_n 3, 1) := by decide +kernel
theorem dX3_readPair_62 : decode cX3_readPair 62 = .ok (.iload 5, 2) := by decide +kernel
theorem dX3_readPair_64 : decode cX3_readPair 64 = .ok (.iastore, 1) := by decide +kernel
theorem dX3_readPair_65 : decode cX3_readPair 65 = .ok (.iconst 1, 1) := by decide +kernel
theorem dX3_readPair_66 : decode cX3_readPair 66 = .ok (.ireturn, 1) := by decide +kernel
theorem dX3_readFruit_0 : decode cX3_readFruit 0 = .ok (.aload_n 0, 1) := by decide +kernel
theorem dX3_readFruit_1 : decode cX3_readFruit 1 = .ok (.getfield 44, 3) := by decide +kernel
theorem dX3_readFruit_4 : decode cX3_readFruit 4 = .ok (.istore_n 2, 1) := by decide +kernel
theorem dX3_readFruit_5 : decode cX3_readFruit 5 = .ok (.aload_n 1, 1) := by decide +kernel
theorem dX3_readFruit_6 : decode cX3_readFruit 6 = .ok (.aload_n 0, 1) := by decide +kernel
theorem dX3_readFruit_7 : decode cX3_readFruit 7 = .ok (.getfield 9, 3) := by decide +kernel
theorem dX3_readFruit_10 : decode cX3_readFruit 10 = .ok (.aload_n 0, 1) := by decide +kernel
theorem dX3_readFruit_11 : decode cX3_readFruit 11 = .ok (.getfield 15, 3) := by decide +kernel
theorem dX3_readFruit_14 : decode cX3_readFruit 14 = .ok (.iload_n 2, 1) := by decide +kernel
theorem dX3_readFruit_15 : decode cX3_readFruit 15 = .ok (.invokestatic 72, 3) := by decide +kernel
theorem dX3_readFruit_18 : decode cX3_readFruit 18 = .ok (.ifCond .ne 5, 3) := by decide +kernel
theorem dX3_readFruit_21 : decode cX3_readFruit 21 = .ok (.iconst 0, 1) := by decide +kernel
theorem dX3_readFruit_22 : decode cX3_readFruit 22 = .ok (.ireturn, 1) := by decide +kernel
theorem dX3_readFruit_23 : decode cX3_readFruit 23 = .ok (.aload_n 0, 1) := by decide +kernel
theorem dX3_readFruit_24 : decode cX3_readFruit 24 = .ok (.getfield 18, 3) := by decide +kernel
theorem dX3_readFruit_27 : decode cX3_readFruit 27 = .ok (.iload_n 2, 1) := by decide +kernel
theorem dX3_readFruit_28 : decode cX3_readFruit 28 = .ok (.aload_n 1, 1) := by decide +kernel
theorem dX3_readFruit_29 : decode cX3_readFruit 29 = .ok (.bipush 42, 2) := by decide +kernel
theorem dX3_readFruit_31 : decode cX3_readFruit 31 = .ok (.invokevirtual 54, 3) := by decide +kernel
theorem dX3_readFruit_34 : decode cX3_readFruit 34 = .ok (.ifCond .eq 11, 3) := by decide +kernel
theorem dX3_readFruit_37 : decode cX3_readFruit 37 = .ok (.aload_n 1, 1) := by decide +kernel
theorem dX3_readFruit_38 : decode cX3_readFruit 38 = .ok (.iconst 1, 1) := by decide +kernel
theorem dX3_readFruit_39 : decode cX3_readFruit 39 = .ok (.invokevirtual 76, 3) := by decide +kernel
theorem dX3_readFruit_42 : decode cX3_readFruit 42 = .ok (.goto 4, 3) := by decide +kernel
theorem dX3_readFruit_45 : decode cX3_readFruit 45 = .ok (.iconst 1, 1) := by decide +kernel
theorem dX3_readFruit_46 : decode cX3_readFruit 46 = .ok (.iastore, 1) := by decide +kernel
theorem dX3_readFruit_47 : decode cX3_readFruit 47 = .ok (.aload_n 0, 1) := by decide +kernel
theorem dX3_readFruit_48 : decode cX3_readFruit 48 = .ok (.getfield 18, 3) := by decide +kernel
theorem dX3_readFruit_51 : decode cX3_readFruit 51 = .ok (.iload_n 2, 1) := by decide +kernel
theorem dX3_readFruit_52 : decode cX3_readFruit 52 = .ok (.iaload, 1) := by decide +kernel
theorem dX3_readFruit_53 : decode cX3_readFruit 53 = .ok (.iconst (-1), 1) := by decide +kernel
theorem dX3_readFruit_54 : decode cX3_readFruit 54 = .ok (.if_icmp .ne 5, 3) := by decide +kernel
theorem dX3_readFruit_57 : decode cX3_readFruit 57 = .ok (.iconst 0, 1) := by decide +kernel
theorem dX3_readFruit_58 : decode cX3_readFruit 58 = .ok (.ireturn, 1) := by decide +kernel
theorem dX3_readFruit_59 : decode cX3_readFruit 59 = .ok (.aload_n 0, 1) := by decide +kernel
theorem dX3_readFruit_60 : decode cX3_readFruit 60 = .ok (.getfield 21, 3) := by decide +kernel
theorem dX3_readFruit_63 : decode cX3_readFruit 63 = .ok (.iload_n 2, 1) := by decide +kernel
theorem dX3_readFruit_64 : decode cX3_readFruit 64 = .ok (.aload_n 1, 1) := by decide +kernel
theorem dX3_readFruit_65 : decode cX3_readFruit 65 = .ok (.bipush 64, 2) := by decide +kernel
theorem dX3_readFruit_67 : decode cX3_readFruit 67 = .ok (.invokevirtual 54, 3) := by decide +kernel
theorem dX3_readFruit_70 : decode cX3_readFruit 70 = .ok (.ifCond .eq 11, 3) := by decide +kernel
theorem dX3_readFruit_73 : decode cX3_readFruit 73 = .ok (.aload_n 1, 1) := by decide +kernel
theorem dX3_readFruit_74 : decode cX3_readFruit 74 = .ok (.iconst 1, 1) := by decide +kernel
theorem dX3_readFruit_75 : decode cX3_readFruit 75 = .ok (.invokevirtual 76, 3) := by decide +kernel
theorem dX3_readFruit_78 : decode cX3_readFruit 78 = .ok (.goto 4, 3) := by decide +kernel
theorem dX3_readFruit_81 : decode cX3_readFruit 81 = .ok (.iconst 0, 1) := by decide +kernel
theorem dX3_readFruit_82 : decode cX3_readFruit 82 = .ok (.iastore, 1) := by decide +kernel
theorem dX3_readFruit_83 : decode cX3_readFruit 83 = .ok (.aload_n 0, 1) := by decide +kernel
theorem dX3_readFruit_84 : decode cX3_readFruit 84 = .ok (.getfield 21, 3) := by decide +kernel
theorem dX3_readFruit_87 : decode cX3_readFruit 87 = .ok (.iload_n 2, 1) := by decide +kernel
theorem dX3_readFruit_88 : decode cX3_readFruit 88 = .ok (.iaload, 1) := by decide +kernel
theorem dX3_readFruit_89 : decode cX3_readFruit 89 = .ok (.iconst (-1), 1) := by decide +kernel
theorem dX3_readFruit_90 : decode cX3_readFruit 90 = .ok (.if_icmp .ne 5, 3) := by decide +kernel
theorem dX3_readFruit_93 : decode cX3_readFruit 93 = .ok (.iconst 0, 1) := by decide +kernel
theorem dX3_readFruit_94 : decode cX3_readFruit 94 = .ok (.ireturn, 1) := by decide +kernel
theorem dX3_readFruit_95 : decode cX3_readFruit 95 = .ok (.aload_n 0, 1) := by decide +kernel
theorem dX3_readFruit_96 : decode cX3_readFruit 96 = .ok (.dup, 1) := by decide +kernel
theorem dX3_readFruit_97 : decode cX3_readFruit 97 = .ok (.getfield 44, 3) := by decide +kernel
theorem dX3_readFruit_100 : decode cX3_readFruit 100 = .ok (.iconst 1, 1) := by decide +kernel
theorem dX3_readFruit_101 : decode cX3_readFruit 101 = .ok (.iadd, 1) := by decide +kernel
theorem dX3_readFruit_102 : decode cX3_readFruit 102 = .ok (.putfield 44, 3) := by decide +kernel
theorem dX3_readFruit_105 : decode cX3_readFruit 105 = .ok (.iconst 1, 1) := by decide +kernel
theorem dX3_readFruit_106 : decode cX3_readFruit 106 = .ok (.ireturn, 1) := by decide +kernel
theorem dX3_readStanding_0 : decode cX3_readStanding 0 = .ok (.aload_n 1, 1) := by decide +kernel
theorem dX3_readStanding_1 : decode cX3_readStanding 1 = .ok (.aload_n 0, 1) := by decide +kernel
theorem dX3_readStanding_2 : decode cX3_readStanding 2 = .ok (.getfield 24, 3) := by decide +kernel
theorem dX3_readStanding_5 : decode cX3_readStanding 5 = .ok (.aload_n 0, 1) := by decide +kernel
theorem dX3_readStanding_6 : decode cX3_readStanding 6 = .ok (.getfield 27, 3) := by decide +kernel
theorem dX3_readStanding_9 : decode cX3_readStanding 9 = .ok (.aload_n 0, 1) := by decide +kernel
theorem dX3_readStanding_10 : decode cX3_readStanding 10 = .ok (.getfield 47, 3) := by decide +kernel
theorem dX3_readStanding_13 : decode cX3_readStanding 13 = .ok (.invokestatic 72, 3) := by decide +kernel
theorem dX3_readStanding_16 : decode cX3_readStanding 16 = .ok (.ifCond .ne 5, 3) := by decide +kernel
theorem dX3_readStanding_19 : decode cX3_readStanding 19 = .ok (.iconst 0, 1) := by decide +kernel
theorem dX3_readStanding_20 : decode cX3_readStanding 20 = .ok (.ireturn, 1) := by decide +kernel
theorem dX3_readStanding_21 : decode cX3_readStanding 21 = .ok (.aload_n 0, 1) := by decide +kernel
theorem dX3_readStanding_22 : decode cX3_readStanding 22 = .ok (.dup, 1) := by decide +kernel
theorem dX3_readStanding_23 : decode cX3_readStanding 23 = .ok (.getfield 47, 3) := by decide +kernel
theorem dX3_readStanding_26 : decode cX3_readStanding 26 = .ok (.iconst 1, 1) := by decide +kernel
theorem dX3_readStanding_27 : decode cX3_readStanding 27 = .ok (.iadd, 1) := by decide +kernel
theorem dX3_readStanding_28 : decode cX3_readStanding 28 = .ok (.putfield 47, 3) := by decide +kernel
theorem dX3_readStanding_31 : decode cX3_readStanding 31 = .ok (.iconst 1, 1) := by decide +kernel
theorem dX3_readStanding_32 : decode cX3_readStanding 32 = .ok (.ireturn, 1) := by decide +kernel
theorem dX3_readLine_0 : decode cX3_readLine 0 = .ok (.aload_n 1, 1) := by decide +kernel
theorem dX3_readLine_1 : decode cX3_readLine 1 = .ok (.invokevirtual 60, 3) := by decide +kernel
theorem dX3_readLine_4 : decode cX3_readLine 4 = .ok (.bipush 102, 2) := by decide +kernel
theorem dX3_readLine_6 : decode cX3_readLine 6 = .ok (.if_icmp .ne 22, 3) := by decide +kernel
theorem dX3_readLine_9 : decode cX3_readLine 9 = .ok (.aload_n 0, 1) := by decide +kernel
theorem dX3_readLine_10 : decode cX3_readLine 10 = .ok (.getfield 44, 3) := by decide +kernel
theorem dX3_readLine_13 : decode cX3_readLine 13 = .ok (.bipush 16, 2) := by decide +kernel
theorem dX3_readLine_15 : decode cX3_readLine 15 = .ok (.if_icmp .ge 13, 3) := by decide +kernel
theorem dX3_readLine_18 : decode cX3_readLine 18 = .ok (.aload_n 1, 1) := by decide +kernel
theorem dX3_readLine_19 : decode cX3_readLine 19 = .ok (.invokevirtual 63, 3) := by decide +kernel
theorem dX3_readLine_22 : decode cX3_readLine 22 = .ok (.aload_n 0, 1) := by decide +kernel
theorem dX3_readLine_23 : decode cX3_readLine 23 = .ok (.aload_n 1, 1) := by decide +kernel
theorem dX3_readLine_24 : decode cX3_readLine 24 = .ok (.invokevirtual 66, 3) := by decide +kernel
theorem dX3_readLine_27 : decode cX3_readLine 27 = .ok (.ireturn, 1) := by decide +kernel
theorem dX3_readLine_28 : decode cX3_readLine 28 = .ok (.aload_n 1, 1) := by decide +kernel
theorem dX3_readLine_29 : decode cX3_readLine 29 = .ok (.invokevirtual 60, 3) := by decide +kernel
theorem dX3_readLine_32 : decode cX3_readLine 32 = .ok (.bipush 115, 2) := by decide +kernel
theorem dX3_readLine_34 : decode cX3_readLine 34 = .ok (.if_icmp .ne 22, 3) := by decide +kernel
theorem dX3_readLine_37 : decode cX3_readLine 37 = .ok (.aload_n 0, 1) := by decide +kernel
theorem dX3_readLine_38 : decode cX3_readLine 38 = .ok (.getfield 47, 3) := by decide +kernel
theorem dX3_readLine_41 : decode cX3_readLine 41 = .ok (.bipush 8, 2) := by decide +kernel
theorem dX3_readLine_43 : decode cX3_readLine 43 = .ok (.if_icmp .ge 13, 3) := by decide +kernel
theorem dX3_readLine_46 : decode cX3_readLine 46 = .ok (.aload_n 1, 1) := by decide +kernel
theorem dX3_readLine_47 : decode cX3_readLine 47 = .ok (.invokevirtual 63, 3) := by decide +kernel
theorem dX3_readLine_50 : decode cX3_readLine 50 = .ok (.aload_n 0, 1) := by decide +kernel
theorem dX3_readLine_51 : decode cX3_readLine 51 = .ok (.aload_n 1, 1) := by decide +kernel
theorem dX3_readLine_52 : decode cX3_readLine 52 = .ok (.invokevirtual 69, 3) := by decide +kernel
theorem dX3_readLine_55 : decode cX3_readLine 55 = .ok (.ireturn, 1) := by decide +kernel
theorem dX3_readLine_56 : decode cX3_readLine 56 = .ok (.iconst 0, 1) := by decide +kernel
theorem dX3_readLine_57 : decode cX3_readLine 57 = .ok (.ireturn, 1) := by decide +kernel
theorem dX3_readLines_0 : decode cX3_readLines 0 = .ok (.aload_n 0, 1) := by decide +kernel
theorem dX3_readLines_1 : decode cX3_readLines 1 = .ok (.aload_n 0, 1) := by decide +kernel
theorem dX3_readLines_2 : decode cX3_readLines 2 = .ok (.getfield 33, 3) := by decide +kernel
theorem dX3_readLines_5 : decode cX3_readLines 5 = .ok (.putfield 44, 3) := by decide +kernel
theorem dX3_readLines_8 : decode cX3_readLines 8 = .ok (.aload_n 0, 1) := by decide +kernel
theorem dX3_readLines_9 : decode cX3_readLines 9 = .ok (.aload_n 0, 1) := by decide +kernel
theorem dX3_readLines_10 : decode cX3_readLines 10 = .ok (.getfield 37, 3) := by decide +kernel
theorem dX3_readLines_13 : decode cX3_readLines 13 = .ok (.putfield 47, 3) := by decide +kernel
theorem dX3_readLines_16 : decode cX3_readLines 16 = .ok (.iconst 1, 1) := by decide +kernel
theorem dX3_readLines_17 : decode cX3_readLines 17 = .ok (.istore_n 2, 1) := by decide +kernel
theorem dX3_readLines_18 : decode cX3_readLines 18 = .ok (.iload_n 2, 1) := by decide +kernel
theorem dX3_readLines_19 : decode cX3_readLines 19 = .ok (.bipush 76, 2) := by decide +kernel
theorem dX3_readLines_21 : decode cX3_readLines 21 = .ok (.if_icmp .gt 30, 3) := by decide +kernel
theorem dX3_readLines_24 : decode cX3_readLines 24 = .ok (.aload_n 0, 1) := by decide +kernel
theorem dX3_readLines_25 : decode cX3_readLines 25 = .ok (.aload_n 1, 1) := by decide +kernel
theorem dX3_readLines_26 : decode cX3_readLines 26 = .ok (.invokevirtual 50, 3) := by decide +kernel
theorem dX3_readLines_29 : decode cX3_readLines 29 = .ok (.ifCond .ne 5, 3) := by decide +kernel
theorem dX3_readLines_32 : decode cX3_readLines 32 = .ok (.iconst (-1), 1) := by decide +kernel
theorem dX3_readLines_33 : decode cX3_readLines 33 = .ok (.ireturn, 1) := by decide +kernel
theorem dX3_readLines_34 : decode cX3_readLines 34 = .ok (.aload_n 1, 1) := by decide +kernel
theorem dX3_readLines_35 : decode cX3_readLines 35 = .ok (.bipush 59, 2) := by decide +kernel
theorem dX3_readLines_37 : decode cX3_readLines 37 = .ok (.invokevirtual 54, 3) := by decide +kernel
theorem dX3_readLines_40 : decode cX3_readLines 40 = .ok (.ifCond .ne 5, 3) := by decide +kernel
theorem dX3_readLines_43 : decode cX3_readLines 43 = .ok (.iload_n 2, 1) := by decide +kernel
theorem dX3_readLines_44 : decode cX3_readLines 44 = .ok (.ireturn, 1) := by decide +kernel
theorem dX3_readLines_45 : decode cX3_readLines 45 = .ok (.iinc 2 1, 3) := by decide +kernel
theorem dX3_readLines_48 : decode cX3_readLines 48 = .ok (.goto (-30), 3) := by decide +kernel
theorem dX3_readLines_51 : decode cX3_readLines 51 = .ok (.iconst (-1), 1) := by decide +kernel
theorem dX3_readLines_52 : decode cX3_readLines 52 = .ok (.ireturn, 1) := by decide +kernel
theorem dX9_orchard_0 : decode cX9_orchard 0 = .ok (.aload_n 0, 1) := by decide +kernel
theorem dX9_orchard_1 : decode cX9_orchard 1 = .ok (.getfield 10, 3) := by decide +kernel
theorem dX9_orchard_4 : decode cX9_orchard 4 = .ok (.bipush 76, 2) := by decide +kernel
theorem dX9_orchard_6 : decode cX9_orchard 6 = .ok (.invokevirtual 73, 3) := by decide +kernel
theorem dX9_orchard_9 : decode cX9_orchard 9 = .ok (.aload_n 0, 1) := by decide +kernel
theorem dX9_orchard_10 : decode cX9_orchard 10 = .ok (.getfield 10, 3) := by decide +kernel
theorem dX9_orchard_13 : decode cX9_orchard 13 = .ok (.getfield 77, 3) := by decide +kernel
theorem dX9_orchard_16 : decode cX9_orchard 16 = .ok (.ifCond .ne 7, 3) := by decide +kernel
theorem dX9_orchard_19 : decode cX9_orchard 19 = .ok (.iconst 0, 1) := by decide +kernel
theorem dX9_orchard_20 : decode cX9_orchard 20 = .ok (.goto 14, 3) := by decide +kernel
theorem dX9_orchard_23 : decode cX9_orchard 23 = .ok (.aload_n 0, 1) := by decide +kernel
theorem dX9_orchard_24 : decode cX9_orchard 24 = .ok (.getfield 34, 3) := by decide +kernel
theorem dX9_orchard_27 : decode cX9_orchard 27 = .ok (.aload_n 0, 1) := by decide +kernel
theorem dX9_orchard_28 : decode cX9_orchard 28 = .ok (.getfield 10, 3) := by decide +kernel
theorem dX9_orchard_31 : decode cX9_orchard 31 = .ok (.invokevirtual 81, 3) := by decide +kernel
theorem dX9_orchard_34 : decode cX9_orchard 34 = .ok (.istore_n 1, 1) := by decide +kernel
theorem dX9_orchard_35 : decode cX9_orchard 35 = .ok (.iload_n 1, 1) := by decide +kernel
theorem dX9_orchard_36 : decode cX9_orchard 36 = .ok (.iconst (-1), 1) := by decide +kernel
theorem dX9_orchard_37 : decode cX9_orchard 37 = .ok (.if_icmp .eq 17, 3) := by decide +kernel
theorem dX9_orchard_40 : decode cX9_orchard 40 = .ok (.aload_n 0, 1) := by decide +kernel
theorem dX9_orchard_41 : decode cX9_orchard 41 = .ok (.getfield 10, 3) := by decide +kernel
theorem dX9_orchard_44 : decode cX9_orchard 44 = .ok (.invokevirtual 87, 3) := by decide +kernel
theorem dX9_orchard_47 : decode cX9_orchard 47 = .ok (.ifCond .eq 7, 3) := by decide +kernel
theorem dX9_orchard_50 : decode cX9_orchard 50 = .ok (.iconst 1, 1) := by decide +kernel
theorem dX9_orchard_51 : decode cX9_orchard 51 = .ok (.goto 4, 3) := by decide +kernel
theorem dX9_orchard_54 : decode cX9_orchard 54 = .ok (.iconst 0, 1) := by decide +kernel
theorem dX9_orchard_55 : decode cX9_orchard 55 = .ok (.istore_n 2, 1) := by decide +kernel
theorem dX9_orchard_56 : decode cX9_orchard 56 = .ok (.iload_n 2, 1) := by decide +kernel
theorem dX9_orchard_57 : decode cX9_orchard 57 = .ok (.ifCond .eq 7, 3) := by decide +kernel
theorem dX9_orchard_60 : decode cX9_orchard 60 = .ok (.iload_n 1, 1) := by decide +kernel
theorem dX9_orchard_61 : decode cX9_orchard 61 = .ok (.goto 10, 3) := by decide +kernel
theorem dX9_orchard_64 : decode cX9_orchard 64 = .ok (.aload_n 0, 1) := by decide +kernel
theorem dX9_orchard_65 : decode cX9_orchard 65 = .ok (.getfield 10, 3) := by decide +kernel
theorem dX9_orchard_68 : decode cX9_orchard 68 = .ok (.invokevirtual 91, 3) := by decide +kernel
theorem dX9_orchard_71 : decode cX9_orchard 71 = .ok (.istore_n 3, 1) := by decide +kernel
theorem dX9_orchard_72 : decode cX9_orchard 72 = .ok (.iload_n 2, 1) := by decide +kernel
theorem dX9_orchard_73 : decode cX9_orchard 73 = .ok (.ifCond .eq 21, 3) := by decide +kernel
theorem dX9_orchard_76 : decode cX9_orchard 76 = .ok (.iload_n 1, 1) := by decide +kernel
theorem dX9_orchard_77 : decode cX9_orchard 77 = .ok (.ifCond .le 17, 3) := by decide +kernel
theorem dX9_orchard_80 : decode cX9_orchard 80 = .ok (.aload_n 0, 1) := by decide +kernel
theorem dX9_orchard_81 : decode cX9_orchard 81 = .ok (.getfield 34, 3) := by decide +kernel
theorem dX9_orchard_84 : decode cX9_orchard 84 = .ok (.invokevirtual 95, 3) := by decide +kernel
theorem dX9_orchard_87 : decode cX9_orchard 87 = .ok (.aload_n 0, 1) := by decide +kernel
theorem dX9_orchard_88 : decode cX9_orchard 88 = .ok (.getfield 43, 3) := by decide +kernel
theorem dX9_orchard_91 : decode cX9_orchard 91 = .ok (.invokevirtual 98, 3) := by decide +kernel
theorem dX9_orchard_94 : decode cX9_orchard 94 = .ok (.aload_n 0, 1) := by decide +kernel
theorem dX9_orchard_95 : decode cX9_orchard 95 = .ok (.getfield 10, 3) := by decide +kernel
theorem dX9_orchard_98 : decode cX9_orchard 98 = .ok (.invokevirtual 101, 3) := by decide +kernel
theorem dX9_orchard_101 : decode cX9_orchard 101 = .ok (.iload_n 3, 1) := by decide +kernel
theorem dX9_orchard_102 : decode cX9_orchard 102 = .ok (.ireturn, 1) := by decide +kernel
theorem dX7_drop_0 : decode cX7_drop 0 = .ok (.aload_n 0, 1) := by decide +kernel
theorem dX7_drop_1 : decode cX7_drop 1 = .ok (.iconst 0, 1) := by decide +kernel
theorem dX7_drop_2 : decode cX7_drop 2 = .ok (.putfield 35, 3) := by decide +kernel
theorem dX7_drop_5 : decode cX7_drop 5 = .ok (.return_, 1) := by decide +kernel
theorem dX7_hold_0 : decode cX7_hold 0 = .ok (.aload_n 0, 1) := by decide +kernel
theorem dX7_hold_1 : decode cX7_hold 1 = .ok (.getfield 41, 3) := by decide +kernel
theorem dX7_hold_4 : decode cX7_hold 4 = .ok (.aload_n 0, 1) := by decide +kernel
theorem dX7_hold_5 : decode cX7_hold 5 = .ok (.getfield 23, 3) := by decide +kernel
theorem dX7_hold_8 : decode cX7_hold 8 = .ok (.arraylength, 1) := by decide +kernel
theorem dX7_hold_9 : decode cX7_hold 9 = .ok (.if_icmp .ge 23, 3) := by decide +kernel
theorem dX7_hold_12 : decode cX7_hold 12 = .ok (.aload_n 0, 1) := by decide +kernel
theorem dX7_hold_13 : decode cX7_hold 13 = .ok (.getfield 23, 3) := by decide +kernel
theorem dX7_hold_16 : decode cX7_hold 16 = .ok (.aload_n 0, 1) := by decide +kernel
theorem dX7_hold_17 : decode cX7_hold 17 = .ok (.getfield 41, 3) := by decide +kernel
theorem dX7_hold_20 : decode cX7_hold 20 = .ok (.iload_n 1, 1) := by decide +kernel
theorem dX7_hold_21 : decode cX7_hold 21 = .ok (.iastore, 1) := by decide +kernel
theorem dX7_hold_22 : decode cX7_hold 22 = .ok (.aload_n 0, 1) := by decide +kernel
theorem dX7_hold_23 : decode cX7_hold 23 = .ok (.dup, 1) := by decide +kernel
theorem dX7_hold_24 : decode cX7_hold 24 = .ok (.getfield 41, 3) := by decide +kernel
theorem dX7_hold_27 : decode cX7_hold 27 = .ok (.iconst 1, 1) := by decide +kernel
theorem dX7_hold_28 : decode cX7_hold 28 = .ok (.iadd, 1) := by decide +kernel
theorem dX7_hold_29 : decode cX7_hold 29 = .ok (.putfield 41, 3) := by decide +kernel
theorem dX7_hold_32 : decode cX7_hold 32 = .ok (.return_, 1) := by decide +kernel
theorem dX7_emit_0 : decode cX7_emit 0 = .ok (.aload_n 0, 1) := by decide +kernel
theorem dX7_emit_1 : decode cX7_emit 1 = .ok (.getfield 38, 3) := by decide +kernel
theorem dX7_emit_4 : decode cX7_emit 4 = .ok (.aload_n 0, 1) := by decide +kernel
theorem dX7_emit_5 : decode cX7_emit 5 = .ok (.getfield 32, 3) := by decide +kernel
theorem dX7_emit_8 : decode cX7_emit 8 = .ok (.arraylength, 1) := by decide +kernel
theorem dX7_emit_9 : decode cX7_emit 9 = .ok (.if_icmp .ge 23, 3) := by decide +kernel
theorem dX7_emit_12 : decode cX7_emit 12 = .ok (.aload_n 0, 1) := by decide +kernel
theorem dX7_emit_13 : decode cX7_emit 13 = .ok (.getfield 32, 3) := by decide +kernel
theorem dX7_emit_16 : decode cX7_emit 16 = .ok (.aload_n 0, 1) := by decide +kernel
theorem dX7_emit_17 : decode cX7_emit 17 = .ok (.getfield 38, 3) := by decide +kernel
theorem dX7_emit_20 : decode cX7_emit 20 = .ok (.iload_n 1, 1) := by decide +kernel
theorem dX7_emit_21 : decode cX7_emit 21 = .ok (.iastore, 1) := by decide +kernel
theorem dX7_emit_22 : decode cX7_emit 22 = .ok (.aload_n 0, 1) := by decide +kernel
theorem dX7_emit_23 : decode cX7_emit 23 = .ok (.dup, 1) := by decide +kernel
theorem dX7_emit_24 : decode cX7_emit 24 = .ok (.getfield 38, 3) := by decide +kernel
theorem dX7_emit_27 : decode cX7_emit 27 = .ok (.iconst 1, 1) := by decide +kernel
theorem dX7_emit_28 : decode cX7_emit 28 = .ok (.iadd, 1) := by decide +kernel
theorem dX7_emit_29 : decode cX7_emit 29 = .ok (.putfield 38, 3) := by decide +kernel
theorem dX7_emit_32 : decode cX7_emit 32 = .ok (.return_, 1) := by decide +kernel
theorem dX7_readPlainThing_0 : decode cX7_readPlainThing 0 = .ok (.aload_n 1, 1) := by decide +kernel
theorem dX7_readPlainThing_1 : decode cX7_readPlainThing 1 = .ok (.iconst 3, 1) := by decide +kernel
theorem dX7_readPlainThing_2 : decode cX7_readPlainThing 2 = .ok (.invokevirtual 83, 3) := by decide +kernel
theorem dX7_readPlainThing_5 : decode cX7_readPlainThing 5 = .ok (.istore_n 2, 1) := by decide +kernel
theorem dX7_readPlainThing_6 : decode cX7_readPlainThing 6 = .ok (.iload_n 2, 1) := by decide +kernel
theorem dX7_readPlainThing_7 : decode cX7_readPlainThing 7 = .ok (.iconst (-1), 1) := by decide +kernel
theorem dX7_readPlainThing_8 : decode cX7_readPlainThing 8 = .ok (.if_icmp .ne 30, 3) := by decide +kernel
theorem dX7_readPlainThing_11 : decode cX7_readPlainThing 11 = .ok (.ldc 11, 2) := by decide +kernel
theorem dX7_readPlainThing_13 : decode cX7_readPlainThing 13 = .ok (.aload_n 1, 1) := by decide +kernel
theorem dX7_readPlainThing_14 : decode cX7_readPlainThing 14 = .ok (.invokevirtual 54, 3) := by decide +kernel
theorem dX7_readPlainThing_17 : decode cX7_readPlainThing 17 = .ok (.i2c, 1) := by decide +kernel
theorem dX7_readPlainThing_18 : decode cX7_readPlainThing 18 = .ok (.invokevirtual 87, 3) := by decide +kernel
theorem dX7_readPlainThing_21 : decode cX7_readPlainThing 21 = .ok (.istore_n 3, 1) := by decide +kernel
theorem dX7_readPlainThing_22 : decode cX7_readPlainThing 22 = .ok (.iload_n 3, 1) := by decide +kernel
theorem dX7_readPlainThing_23 : decode cX7_readPlainThing 23 = .ok (.ifCond .ge 5, 3) := by decide +kernel
theorem dX7_readPlainThing_26 : decode cX7_readPlainThing 26 = .ok (.iconst 0, 1) := by decide +kernel
theorem dX7_readPlainThing_27 : decode cX7_readPlainThing 27 = .ok (.ireturn, 1) := by decide +kernel
theorem dX7_readPlainThing_28 : decode cX7_readPlainThing 28 = .ok (.sipush 1000, 3) := by decide +kernel
theorem dX7_readPlainThing_31 : decode cX7_readPlainThing 31 = .ok (.iload_n 3, 1) := by decide +kernel
theorem dX7_readPlainThing_32 : decode cX7_readPlainThing 32 = .ok (.iadd, 1) := by decide +kernel
theorem dX7_readPlainThing_33 : decode cX7_readPlainThing 33 = .ok (.istore_n 2, 1) := by decide +kernel
theorem dX7_readPlainThing_34 : decode cX7_readPlainThing 34 = .ok (.aload_n 1, 1) := by decide +kernel
theorem dX7_readPlainThing_35 : decode cX7_readPlainThing 35 = .ok (.invokevirtual 80, 3) := by decide +kernel
theorem dX7_readPlainThing_38 : decode cX7_readPlainThing 38 = .ok (.aload_n 0, 1) := by decide +kernel
theorem dX7_readPlainThing_39 : decode cX7_readPlainThing 39 = .ok (.iload_n 2, 1) := by decide +kernel
theorem dX7_readPlainThing_40 : decode cX7_readPlainThing 40 = .ok (.invokevirtual 90, 3) := by decide +kernel
theorem dX7_readPlainThing_43 : decode cX7_readPlainThing 43 = .ok (.aload_n 0, 1) := by decide +kernel
theorem dX7_readPlainThing_44 : decode cX7_readPlainThing 44 = .ok (.iconst 0, 1) := by decide +kernel
theorem dX7_readPlainThing_45 : decode cX7_readPlainThing 45 = .ok (.putfield 50, 3) := by decide +kernel
theorem dX7_readPlainThing_48 : decode cX7_readPlainThing 48 = .ok (.iconst 1, 1) := by decide +kernel
theorem dX7_readPlainThing_49 : decode cX7_readPlainThing 49 = .ok (.ireturn, 1) := by decide +kernel
theorem dX7_readThing_0 : decode cX7_readThing 0 = .ok (.aload_n 1, 1) := by decide +kernel
theorem dX7_readThing_1 : decode cX7_readThing 1 = .ok (.invokevirtual 54, 3) := by decide +kernel
theorem dX7_readThing_4 : decode cX7_readThing 4 = .ok (.istore_n 2, 1) := by decide +kernel
theorem dX7_readThing_5 : decode cX7_readThing 5 = .ok (.iload_n 2, 1) := by decide +kernel
theorem dX7_readThing_6 : decode cX7_readThing 6 = .ok (.bipush 45, 2) := by decide +kernel
theorem dX7_readThing_8 : decode cX7_readThing 8 = .ok (.if_icmp .ne 13, 3) := by decide +kernel
theorem dX7_readThing_11 : decode cX7_readThing 11 = .ok (.aload_n 0, 1) := by decide +kernel
theorem dX7_readThing_12 : decode cX7_readThing 12 = .ok (.sipush 256, 3) := by decide +kernel
theorem dX7_readThing_15 : decode cX7_readThing 15 = .ok (.invokevirtual 74, 3) := by decide +kernel
theorem dX7_readThing_18 : decode cX7_readThing 18 = .ok (.goto 60, 3) := by decide +kernel
theorem dX7_readThing_21 : decode cX7_readThing 21 = .ok (.iload_n 2, 1) := by decide +kernel
theorem dX7_readThing_22 : decode cX7_readThing 22 = .ok (.bipush 40, 2) := by decide +kernel
theorem dX7_readThing_24 : decode cX7_readThing 24 = .ok (.if_icmp .ne 48, 3) := by decide +kernel
theorem dX7_readThing_27 : decode cX7_readThing 27 = .ok (.aload_n 0, 1) := by decide +kernel
theorem dX7_readThing_28 : decode cX7_readThing 28 = .ok (.getfield 44, 3) := by decide +kernel
theorem dX7_readThing_31 : decode cX7_readThing 31 = .ok (.iconst 4, 1) := by decide +kernel
theorem dX7_readThing_32 : decode cX7_readThing 32 = .ok (.if_icmp .lt 5, 3) := by decide +kernel
theorem dX7_readThing_35 : decode cX7_readThing 35 = .ok (.iconst 0, 1) := by decide +kernel
theorem dX7_readThing_36 : decode cX7_readThing 36 = .ok (.ireturn, 1) := by decide +kernel
theorem dX7_readThing_37 : decode cX7_readThing 37 = .ok (.aload_n 0, 1) := by decide +kernel
theorem dX7_readThing_38 : decode cX7_readThing 38 = .ok (.dup, 1) := by decide +kernel
theorem dX7_readThing_39 : decode cX7_readThing 39 = .ok (.getfield 44, 3) := by decide +kernel
theorem dX7_readThing_42 : decode cX7_readThing 42 = .ok (.iconst 1, 1) := by decide +kernel
theorem dX7_readThing_43 : decode cX7_readThing 43 = .ok (.iadd, 1) := by decide +kernel
theorem dX7_readThing_44 : decode cX7_readThing 44 = .ok (.putfield 44, 3) := by decide +kernel
theorem dX7_readThing_47 : decode cX7_readThing 47 = .ok (.aload_n 0, 1) := by decide +kernel
theorem dX7_readThing_48 : decode cX7_readThing 48 = .ok (.dup, 1) := by decide +kernel
theorem dX7_readThing_49 : decode cX7_readThing 49 = .ok (.getfield 47, 3) := by decide +kernel
theorem dX7_readThing_52 : decode cX7_readThing 52 = .ok (.iconst 1, 1) := by decide +kernel
theorem dX7_readThing_53 : decode cX7_readThing 53 = .ok (.aload_n 0, 1) := by decide +kernel
theorem dX7_readThing_54 : decode cX7_readThing 54 = .ok (.getfield 44, 3) := by decide +kernel
theorem dX7_readThing_57 : decode cX7_readThing 57 = .ok (.ishl, 1) := by decide +kernel
theorem dX7_readThing_58 : decode cX7_readThing 58 = .ok (.iconst (-1), 1) := by decide +kernel
theorem dX7_readThing_59 : decode cX7_readThing 59 = .ok (.ixor, 1) := by decide +kernel
theorem dX7_readThing_60 : decode cX7_readThing 60 = .ok (.iand, 1) := by decide +kernel
theorem dX7_readThing_61 : decode cX7_readThing 61 = .ok (.putfield 47, 3) := by decide +kernel
theorem dX7_readThing_64 : decode cX7_readThing 64 = .ok (.aload_n 0, 1) := by decide +kernel
theorem dX7_readThing_65 : decode cX7_readThing 65 = .ok (.iload_n 2, 1) := by decide +kernel
theorem dX7_readThing_66 : decode cX7_readThing 66 = .ok (.invokevirtual 74, 3) := by decide +kernel
theorem dX7_readThing_69 : decode cX7_readThing 69 = .ok (.goto 9, 3) := by decide +kernel
theorem dX7_readThing_72 : decode cX7_readThing 72 = .ok (.aload_n 0, 1) := by decide +kernel
theorem dX7_readThing_73 : decode cX7_readThing 73 = .ok (.aload_n 1, 1) := by decide +kernel
theorem dX7_readThing_74 : decode cX7_readThing 74 = .ok (.invokevirtual 77, 3) := by decide +kernel
theorem dX7_readThing_77 : decode cX7_readThing 77 = .ok (.ireturn, 1) := by decide +kernel
theorem dX7_readThing_78 : decode cX7_readThing 78 = .ok (.aload_n 1, 1) := by decide +kernel
theorem dX7_readThing_79 : decode cX7_readThing 79 = .ok (.invokevirtual 80, 3) := by decide +kernel
theorem dX7_readThing_82 : decode cX7_readThing 82 = .ok (.iconst 1, 1) := by decide +kernel
theorem dX7_readThing_83 : decode cX7_readThing 83 = .ok (.ireturn, 1) := by decide +kernel
theorem dX7_strength_0 : decode cX7_strength 0 = .ok (.iload_n 0, 1) := by decide +kernel
theorem dX7_strength_1 : decode cX7_strength 1 = .ok (.lookupswitch 83 #[(42, 79), (43, 77), (45, 77), (47, 79), (60, 75), (61, 75), (62, 75), (256, 81)], 75) := by decide +kernel
theorem dX7_strength_76 : decode cX7_strength 76 = .ok (.iconst 1, 1) := by decide +kernel
theorem dX7_strength_77 : decode cX7_strength 77 = .ok (.ireturn, 1) := by decide +kernel
theorem dX7_strength_78 : decode cX7_strength 78 = .ok (.iconst 2, 1) := by decide +kernel
theorem dX7_strength_79 : decode cX7_strength 79 = .ok (.ireturn, 1) := by decide +kernel
theorem dX7_strength_80 : decode cX7_strength 80 = .ok (.iconst 3, 1) := by decide +kernel
theorem dX7_strength_81 : decode cX7_strength 81 = .ok (.ireturn, 1) := by decide +kernel
theorem dX7_strength_82 : decode cX7_strength 82 = .ok (.iconst 4, 1) := by decide +kernel
theorem dX7_strength_83 : decode cX7_strength 83 = .ok (.ireturn, 1) := by decide +kernel
theorem dX7_strength_84 : decode cX7_strength 84 = .ok (.iconst 0, 1) := by decide +kernel
theorem dX7_strength_85 : decode cX7_strength 85 = .ok (.ireturn, 1) := by decide +kernel
theorem dX7_settle_0 : decode cX7_settle 0 = .ok (.aload_n 0, 1) := by decide +kernel
theorem dX7_settle_1 : decode cX7_settle 1 = .ok (.getfield 41, 3) := by decide +kernel
theorem dX7_settle_4 : decode cX7_settle 4 = .ok (.ifCond .le 51, 3) := by decide +kernel
theorem dX7_settle_7 : decode cX7_settle 7 = .ok (.aload_n 0, 1) := by decide +kernel
theorem dX7_settle_8 : decode cX7_settle 8 = .ok (.getfield 23, 3) := by decide +kernel
theorem dX7_settle_11 : decode cX7_settle 11 = .ok (.aload_n 0, 1) := by decide +kernel
theorem dX7_settle_12 : decode cX7_settle 12 = .ok (.getfield 41, 3) := by decide +kernel
theorem dX7_settle_15 : decode cX7_settle 15 = .ok (.iconst 1, 1) := by decide +kernel
theorem dX7_settle_16 : decode cX7_settle 16 = .ok (.isub, 1) := by decide +kernel
theorem dX7_settle_17 : decode cX7_settle 17 = .ok (.iaload, 1) := by decide +kernel
theorem dX7_settle_18 : decode cX7_settle 18 = .ok (.invokestatic 99, 3) := by decide +kernel
theorem dX7_settle_21 : decode cX7_settle 21 = .ok (.iload_n 1, 1) := by decide +kernel
theorem dX7_settle_22 : decode cX7_settle 22 = .ok (.if_icmp .lt 33, 3) := by decide +kernel
theorem dX7_settle_25 : decode cX7_settle 25 = .ok (.aload_n 0, 1) := by decide +kernel
theorem dX7_settle_26 : decode cX7_settle 26 = .ok (.dup, 1) := by decide +kernel
theorem dX7_settle_27 : decode cX7_settle 27 = .ok (.getfield 41, 3) := by decide +kernel
theorem dX7_settle_30 : decode cX7_settle 30 = .ok (.iconst 1, 1) := by decide +kernel
theorem dX7_settle_31 : decode cX7_settle 31 = .ok (.isub, 1) := by decide +kernel
theorem dX7_settle_32 : decode cX7_settle 32 = .ok (.putfield 41, 3) := by decide +kernel
theorem dX7_settle_35 : decode cX7_settle 35 = .ok (.aload_n 0, 1) := by decide +kernel
theorem dX7_settle_36 : decode cX7_settle 36 = .ok (.sipush 2000, 3) := by decide +kernel
theorem dX7_settle_39 : decode cX7_settle 39 = .ok (.aload_n 0, 1) := by decide +kernel
theorem dX7_settle_40 : decode cX7_settle 40 = .ok (.getfield 23, 3) := by decide +kernel
theorem dX7_settle_43 : decode cX7_settle 43 = .ok (.aload_n 0, 1) := by decide +kernel
theorem dX7_settle_44 : decode cX7_settle 44 = .ok (.getfield 41, 3) := by decide +kernel
theorem dX7_settle_47 : decode cX7_settle 47 = .ok (.iaload, 1) := by decide +kernel
theorem dX7_settle_48 : decode cX7_settle 48 = .ok (.iadd, 1) := by decide +kernel
theorem dX7_settle_49 : decode cX7_settle 49 = .ok (.invokevirtual 90, 3) := by decide +kernel
theorem dX7_settle_52 : decode cX7_settle 52 = .ok (.goto (-52), 3) := by decide +kernel
theorem dX7_settle_55 : decode cX7_settle 55 = .ok (.return_, 1) := by decide +kernel
theorem dX7_readBehindThing_0 : decode cX7_readBehindThing 0 = .ok (.aload_n 1, 1) := by decide +kernel
theorem dX7_readBehindThing_1 : decode cX7_readBehindThing 1 = .ok (.invokevirtual 54, 3) := by decide +kernel
theorem dX7_readBehindThing_4 : decode cX7_readBehindThing 4 = .ok (.istore_n 2, 1) := by decide +kernel
theorem dX7_readBehindThing_5 : decode cX7_readBehindThing 5 = .ok (.iload_n 2, 1) := by decide +kernel
theorem dX7_readBehindThing_6 : decode cX7_readBehindThing 6 = .ok (.bipush 41, 2) := by decide +kernel
theorem dX7_readBehindThing_8 : decode cX7_readBehindThing 8 = .ok (.if_icmp .ne 47, 3) := by decide +kernel
theorem dX7_readBehindThing_11 : decode cX7_readBehindThing 11 = .ok (.aload_n 0, 1) := by decide +kernel
theorem dX7_readBehindThing_12 : decode cX7_readBehindThing 12 = .ok (.getfield 44, 3) := by decide +kernel
theorem dX7_readBehindThing_15 : decode cX7_readBehindThing 15 = .ok (.ifCond .ne 5, 3) := by decide +kernel
theorem dX7_readBehindThing_18 : decode cX7_readBehindThing 18 = .ok (.iconst 0, 1) := by decide +kernel
theorem dX7_readBehindThing_19 : decode cX7_readBehindThing 19 = .ok (.ireturn, 1) := by decide +kernel
theorem dX7_readBehindThing_20 : decode cX7_readBehindThing 20 = .ok (.aload_n 0, 1) := by decide +kernel
theorem dX7_readBehindThing_21 : decode cX7_readBehindThing 21 = .ok (.iconst 1, 1) := by decide +kernel
theorem dX7_readBehindThing_22 : decode cX7_readBehindThing 22 = .ok (.invokevirtual 70, 3) := by decide +kernel
theorem dX7_readBehindThing_25 : decode cX7_readBehindThing 25 = .ok (.aload_n 0, 1) := by decide +kernel
theorem dX7_readBehindThing_26 : decode cX7_readBehindThing 26 = .ok (.iconst 0, 1) := by decide +kernel
theorem dX7_readBehindThing_27 : decode cX7_readBehindThing 27 = .ok (.aload_n 0, 1) := by decide +kernel
theorem dX7_readBehindThing_28 : decode cX7_readBehindThing 28 = .ok (.getfield 41, 3) := by decide +kernel
theorem dX7_readBehindThing_31 : decode cX7_readBehindThing 31 = .ok (.iconst 1, 1) := by decide +kernel
theorem dX7_readBehindThing_32 : decode cX7_readBehindThing 32 = .ok (.isub, 1) := by decide +kernel
theorem dX7_readBehindThing_33 : decode cX7_readBehindThing 33 = .ok (.invokestatic 93, 3) := by decide +kernel
theorem dX7_readBehindThing_36 : decode cX7_readBehindThing 36 = .ok (.putfield 41, 3) := by decide +kernel
theorem dX7_readBehindThing_39 : decode cX7_readBehindThing 39 = .ok (.aload_n 0, 1) := by decide +kernel
theorem dX7_readBehindThing_40 : decode cX7_readBehindThing 40 = .ok (.dup, 1) := by decide +kernel
theorem dX7_readBehindThing_41 : decode cX7_readBehindThing 41 = .ok (.getfield 44, 3) := by decide +kernel
theorem dX7_readBehindThing_44 : decode cX7_readBehindThing 44 = .ok (.iconst 1, 1) := by decide +kernel
theorem dX7_readBehindThing_45 : decode cX7_readBehindThing 45 = .ok (.isub, 1) := by decide +kernel
theorem dX7_readBehindThing_46 : decode cX7_readBehindThing 46 = .ok (.putfield 44, 3) := by decide +kernel
theorem dX7_readBehindThing_49 : decode cX7_readBehindThing 49 = .ok (.aload_n 1, 1) := by decide +kernel
theorem dX7_readBehindThing_50 : decode cX7_readBehindThing 50 = .ok (.invokevirtual 80, 3) := by decide +kernel
theorem dX7_readBehindThing_53 : decode cX7_readBehindThing 53 = .ok (.iconst 1, 1) := by decide +kernel
theorem dX7_readBehindThing_54 : decode cX7_readBehindThing 54 = .ok (.ireturn, 1) := by decide +kernel
theorem dX7_readBehindThing_55 : decode cX7_readBehindThing 55 = .ok (.iload_n 2, 1) := by decide +kernel
theorem dX7_readBehindThing_56 : decode cX7_readBehindThing 56 = .ok (.invokestatic 99, 3) := by decide +kernel
theorem dX7_readBehindThing_59 : decode cX7_readBehindThing 59 = .ok (.istore_n 3, 1) := by decide +kernel
theorem dX7_readBehindThing_60 : decode cX7_readBehindThing 60 = .ok (.iload_n 3, 1) := by decide +kernel
theorem dX7_readBehindThing_61 : decode cX7_readBehindThing 61 = .ok (.ifCond .eq 22, 3) := by decide +kernel
theorem dX7_readBehindThing_64 : decode cX7_readBehindThing 64 = .ok (.iload_n 3, 1) := by decide +kernel
theorem dX7_readBehindThing_65 : decode cX7_readBehindThing 65 = .ok (.iconst 1, 1) := by decide +kernel
theorem dX7_readBehindThing_66 : decode cX7_readBehindThing 66 = .ok (.if_icmp .ne 19, 3) := by decide +kernel
theorem dX7_readBehindThing_69 : decode cX7_readBehindThing 69 = .ok (.aload_n 0, 1) := by decide +kernel
theorem dX7_readBehindThing_70 : decode cX7_readBehindThing 70 = .ok (.getfield 47, 3) := by decide +kernel
theorem dX7_readBehindThing_73 : decode cX7_readBehindThing 73 = .ok (.aload_n 0, 1) := by decide +kernel
theorem dX7_readBehindThing_74 : decode cX7_readBehindThing 74 = .ok (.getfield 44, 3) := by decide +kernel
theorem dX7_readBehindThing_77 : decode cX7_readBehindThing 77 = .ok (.ishr, 1) := by decide +kernel
theorem dX7_readBehindThing_78 : decode cX7_readBehindThing 78 = .ok (.iconst 1, 1) := by decide +kernel
theorem dX7_readBehindThing_79 : decode cX7_readBehindThing 79 = .ok (.iand, 1) := by decide +kernel
theorem dX7_readBehindThing_80 : decode cX7_readBehindThing 80 = .ok (.ifCond .eq 5, 3) := by decide +kernel
theorem dX7_readBehindThing_83 : decode cX7_readBehindThing 83 = .ok (.iconst 0, 1) := by decide +kernel
theorem dX7_readBehindThing_84 : decode cX7_readBehindThing 84 = .ok (.ireturn, 1) := by decide +kernel
theorem dX7_readBehindThing_85 : decode cX7_readBehindThing 85 = .ok (.iload_n 3, 1) := by decide +kernel
theorem dX7_readBehindThing_86 : decode cX7_readBehindThing 86 = .ok (.iconst 1, 1) := by decide +kernel
theorem dX7_readBehindThing_87 : decode cX7_readBehindThing 87 = .ok (.if_icmp .ne 18, 3) := by decide +kernel
theorem dX7_readBehindThing_90 : decode cX7_readBehindThing 90 = .ok (.aload_n 0, 1) := by decide +kernel
theorem dX7_readBehindThing_91 : decode cX7_readBehindThing 91 = .ok (.dup, 1) := by decide +kernel
theorem dX7_readBehindThing_92 : decode cX7_readBehindThing 92 = .ok (.getfield 47, 3) := by decide +kernel
theorem dX7_readBehindThing_95 : decode cX7_readBehindThing 95 = .ok (.iconst 1, 1) := by decide +kernel
theorem dX7_readBehindThing_96 : decode cX7_readBehindThing 96 = .ok (.aload_n 0, 1) := by decide +kernel
theorem dX7_readBehindThing_97 : decode cX7_readBehindThing 97 = .ok (.getfield 44, 3) := by decide +kernel
theorem dX7_readBehindThing_100 : decode cX7_readBehindThing 100 = .ok (.ishl, 1) := by decide +kernel
theorem dX7_readBehindThing_101 : decode cX7_readBehindThing 101 = .ok (.ior, 1) := by decide +kernel
theorem dX7_readBehindThing_102 : decode cX7_readBehindThing 102 = .ok (.putfield 47, 3) := by decide +kernel
theorem dX7_readBehindThing_105 : decode cX7_readBehindThing 105 = .ok (.aload_n 0, 1) := by decide +kernel
theorem dX7_readBehindThing_106 : decode cX7_readBehindThing 106 = .ok (.iload_n 3, 1) := by decide +kernel
theorem dX7_readBehindThing_107 : decode cX7_readBehindThing 107 = .ok (.invokevirtual 70, 3) := by decide +kernel
theorem dX7_readBehindThing_110 : decode cX7_readBehindThing 110 = .ok (.aload_n 0, 1) := by decide +kernel
theorem dX7_readBehindThing_111 : decode cX7_readBehindThing 111 = .ok (.iload_n 2, 1) := by decide +kernel
theorem dX7_readBehindThing_112 : decode cX7_readBehindThing 112 = .ok (.invokevirtual 74, 3) := by decide +kernel
theorem dX7_readBehindThing_115 : decode cX7_readBehindThing 115 = .ok (.aload_n 0, 1) := by decide +kernel
theorem dX7_readBehindThing_116 : decode cX7_readBehindThing 116 = .ok (.iconst 1, 1) := by decide +kernel
theorem dX7_readBehindThing_117 : decode cX7_readBehindThing 117 = .ok (.putfield 50, 3) := by decide +kernel
theorem dX7_readBehindThing_120 : decode cX7_readBehindThing 120 = .ok (.aload_n 1, 1) := by decide +kernel
theorem dX7_readBehindThing_121 : decode cX7_readBehindThing 121 = .ok (.invokevirtual 80, 3) := by decide +kernel
theorem dX7_readBehindThing_124 : decode cX7_readBehindThing 124 = .ok (.iconst 1, 1) := by decide +kernel
theorem dX7_readBehindThing_125 : decode cX7_readBehindThing 125 = .ok (.ireturn, 1) := by decide +kernel
theorem dX7_read_0 : decode cX7_read 0 = .ok (.aload_n 0, 1) := by decide +kernel
theorem dX7_read_1 : decode cX7_read 1 = .ok (.iconst 0, 1) := by decide +kernel
theorem dX7_read_2 : decode cX7_read 2 = .ok (.putfield 38, 3) := by decide +kernel
theorem dX7_read_5 : decode cX7_read 5 = .ok (.aload_n 0, 1) := by decide +kernel
theorem dX7_read_6 : decode cX7_read 6 = .ok (.iconst 0, 1) := by decide +kernel
theorem dX7_read_7 : decode cX7_read 7 = .ok (.putfield 41, 3) := by decide +kernel
theorem dX7_read_10 : decode cX7_read 10 = .ok (.aload_n 0, 1) := by decide +kernel
theorem dX7_read_11 : decode cX7_read 11 = .ok (.iconst 0, 1) := by decide +kernel
theorem dX7_read_12 : decode cX7_read 12 = .ok (.putfield 44, 3) := by decide +kernel
theorem dX7_read_15 : decode cX7_read 15 = .ok (.aload_n 0, 1) := by decide +kernel
theorem dX7_read_16 : decode cX7_read 16 = .ok (.iconst 0, 1) := by decide +kernel
theorem dX7_read_17 : decode cX7_read 17 = .ok (.putfield 47, 3) := by decide +kernel
theorem dX7_read_20 : decode cX7_read 20 = .ok (.aload_n 0, 1) := by decide +kernel
theorem dX7_read_21 : decode cX7_read 21 = .ok (.iconst 1, 1) := by decide +kernel
theorem dX7_read_22 : decode cX7_read 22 = .ok (.putfield 50, 3) := by decide +kernel
theorem dX7_read_25 : decode cX7_read 25 = .ok (.iconst 0, 1) := by decide +kernel
theorem dX7_read_26 : decode cX7_read 26 = .ok (.istore_n 2, 1) := by decide +kernel
theorem dX7_read_27 : decode cX7_read 27 = .ok (.iload_n 2, 1) := by decide +kernel
theorem dX7_read_28 : decode cX7_read 28 = .ok (.bipush 40, 2) := by decide +kernel
theorem dX7_read_30 : decode cX7_read 30 = .ok (.if_icmp .ge 45, 3) := by decide +kernel
theorem dX7_read_33 : decode cX7_read 33 = .ok (.aload_n 1, 1) := by decide +kernel
theorem dX7_read_34 : decode cX7_read 34 = .ok (.invokevirtual 54, 3) := by decide +kernel
theorem dX7_read_37 : decode cX7_read 37 = .ok (.iconst (-1), 1) := by decide +kernel
