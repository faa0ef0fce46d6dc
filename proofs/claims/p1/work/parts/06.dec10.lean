theorem dX10_ripeOnes_35 : decode cX10_ripeOnes 35 = .ok (.goto (-31), 3) := by decide +kernel
theorem dX10_ripeOnes_38 : decode cX10_ripeOnes 38 = .ok (.iload_n 2, 1) := by decide +kernel
theorem dX10_ripeOnes_39 : decode cX10_ripeOnes 39 = .ok (.ireturn, 1) := by decide +kernel
theorem dX10_reachedFrom_0 : decode cX10_reachedFrom 0 = .ok (.iconst 0, 1) := by decide +kernel
theorem dX10_reachedFrom_1 : decode cX10_reachedFrom 1 = .ok (.istore 4, 2) := by decide +kernel
theorem dX10_reachedFrom_3 : decode cX10_reachedFrom 3 = .ok (.iconst 0, 1) := by decide +kernel
theorem dX10_reachedFrom_4 : decode cX10_reachedFrom 4 = .ok (.istore 5, 2) := by decide +kernel
theorem dX10_reachedFrom_6 : decode cX10_reachedFrom 6 = .ok (.iload 5, 2) := by decide +kernel
theorem dX10_reachedFrom_8 : decode cX10_reachedFrom 8 = .ok (.aload_n 0, 1) := by decide +kernel
theorem dX10_reachedFrom_9 : decode cX10_reachedFrom 9 = .ok (.getfield 94, 3) := by decide +kernel
theorem dX10_reachedFrom_12 : decode cX10_reachedFrom 12 = .ok (.if_icmp .ge 38, 3) := by decide +kernel
theorem dX10_reachedFrom_15 : decode cX10_reachedFrom 15 = .ok (.iload 4, 2) := by decide +kernel
theorem dX10_reachedFrom_17 : decode cX10_reachedFrom 17 = .ok (.aload_n 0, 1) := by decide +kernel
theorem dX10_reachedFrom_18 : decode cX10_reachedFrom 18 = .ok (.iload 5, 2) := by decide +kernel
theorem dX10_reachedFrom_20 : decode cX10_reachedFrom 20 = .ok (.iload_n 1, 1) := by decide +kernel
theorem dX10_reachedFrom_21 : decode cX10_reachedFrom 21 = .ok (.aload_n 0, 1) := by decide +kernel
theorem dX10_reachedFrom_22 : decode cX10_reachedFrom 22 = .ok (.iload_n 2, 1) := by decide +kernel
theorem dX10_reachedFrom_23 : decode cX10_reachedFrom 23 = .ok (.iload_n 3, 1) := by decide +kernel
theorem dX10_reachedFrom_24 : decode cX10_reachedFrom 24 = .ok (.invokevirtual 214, 3) := by decide +kernel
theorem dX10_reachedFrom_27 : decode cX10_reachedFrom 27 = .ok (.invokevirtual 217, 3) := by decide +kernel
theorem dX10_reachedFrom_30 : decode cX10_reachedFrom 30 = .ok (.ifCond .eq 10, 3) := by decide +kernel
theorem dX10_reachedFrom_33 : decode cX10_reachedFrom 33 = .ok (.iconst 1, 1) := by decide +kernel
theorem dX10_reachedFrom_34 : decode cX10_reachedFrom 34 = .ok (.iload 5, 2) := by decide +kernel
theorem dX10_reachedFrom_36 : decode cX10_reachedFrom 36 = .ok (.ishl, 1) := by decide +kernel
theorem dX10_reachedFrom_37 : decode cX10_reachedFrom 37 = .ok (.goto 4, 3) := by decide +kernel
theorem dX10_reachedFrom_40 : decode cX10_reachedFrom 40 = .ok (.iconst 0, 1) := by decide +kernel
theorem dX10_reachedFrom_41 : decode cX10_reachedFrom 41 = .ok (.ior, 1) := by decide +kernel
theorem dX10_reachedFrom_42 : decode cX10_reachedFrom 42 = .ok (.istore 4, 2) := by decide +kernel
theorem dX10_reachedFrom_44 : decode cX10_reachedFrom 44 = .ok (.iinc 5 1, 3) := by decide +kernel
theorem dX10_reachedFrom_47 : decode cX10_reachedFrom 47 = .ok (.goto (-41), 3) := by decide +kernel
theorem dX10_reachedFrom_50 : decode cX10_reachedFrom 50 = .ok (.iload 4, 2) := by decide +kernel
theorem dX10_reachedFrom_52 : decode cX10_reachedFrom 52 = .ok (.ireturn, 1) := by decide +kernel
theorem dX10_byHand_0 : decode cX10_byHand 0 = .ok (.aload_n 0, 1) := by decide +kernel
theorem dX10_byHand_1 : decode cX10_byHand 1 = .ok (.iload_n 1, 1) := by decide +kernel
theorem dX10_byHand_2 : decode cX10_byHand 2 = .ok (.aload_n 0, 1) := by decide +kernel
theorem dX10_byHand_3 : decode cX10_byHand 3 = .ok (.getfield 9, 3) := by decide +kernel
theorem dX10_byHand_6 : decode cX10_byHand 6 = .ok (.bipush 18, 2) := by decide +kernel
theorem dX10_byHand_8 : decode cX10_byHand 8 = .ok (.iaload, 1) := by decide +kernel
theorem dX10_byHand_9 : decode cX10_byHand 9 = .ok (.iconst 0, 1) := by decide +kernel
theorem dX10_byHand_10 : decode cX10_byHand 10 = .ok (.invokevirtual 220, 3) := by decide +kernel
theorem dX10_byHand_13 : decode cX10_byHand 13 = .ok (.ireturn, 1) := by decide +kernel
theorem dX10_goShake_0 : decode cX10_goShake 0 = .ok (.aload_n 0, 1) := by decide +kernel
theorem dX10_goShake_1 : decode cX10_goShake 1 = .ok (.aload_n 0, 1) := by decide +kernel
theorem dX10_goShake_2 : decode cX10_goShake 2 = .ok (.getfield 9, 3) := by decide +kernel
theorem dX10_goShake_5 : decode cX10_goShake 5 = .ok (.iconst 0, 1) := by decide +kernel
theorem dX10_goShake_6 : decode cX10_goShake 6 = .ok (.invokevirtual 244, 3) := by decide +kernel
theorem dX10_goShake_9 : decode cX10_goShake 9 = .ok (.aload_n 0, 1) := by decide +kernel
theorem dX10_goShake_10 : decode cX10_goShake 10 = .ok (.aload_n 0, 1) := by decide +kernel
theorem dX10_goShake_11 : decode cX10_goShake 11 = .ok (.getfield 9, 3) := by decide +kernel
theorem dX10_goShake_14 : decode cX10_goShake 14 = .ok (.bipush 19, 2) := by decide +kernel
theorem dX10_goShake_16 : decode cX10_goShake 16 = .ok (.iaload, 1) := by decide +kernel
theorem dX10_goShake_17 : decode cX10_goShake 17 = .ok (.invokevirtual 301, 3) := by decide +kernel
theorem dX10_goShake_20 : decode cX10_goShake 20 = .ok (.iand, 1) := by decide +kernel
theorem dX10_goShake_21 : decode cX10_goShake 21 = .ok (.aload_n 0, 1) := by decide +kernel
theorem dX10_goShake_22 : decode cX10_goShake 22 = .ok (.aload_n 0, 1) := by decide +kernel
theorem dX10_goShake_23 : decode cX10_goShake 23 = .ok (.getfield 9, 3) := by decide +kernel
theorem dX10_goShake_26 : decode cX10_goShake 26 = .ok (.bipush 17, 2) := by decide +kernel
theorem dX10_goShake_28 : decode cX10_goShake 28 = .ok (.iaload, 1) := by decide +kernel
theorem dX10_goShake_29 : decode cX10_goShake 29 = .ok (.invokevirtual 304, 3) := by decide +kernel
theorem dX10_goShake_32 : decode cX10_goShake 32 = .ok (.iand, 1) := by decide +kernel
theorem dX10_goShake_33 : decode cX10_goShake 33 = .ok (.istore_n 1, 1) := by decide +kernel
theorem dX10_goShake_34 : decode cX10_goShake 34 = .ok (.aload_n 0, 1) := by decide +kernel
theorem dX10_goShake_35 : decode cX10_goShake 35 = .ok (.aload_n 0, 1) := by decide +kernel
theorem dX10_goShake_36 : decode cX10_goShake 36 = .ok (.getfield 9, 3) := by decide +kernel
theorem dX10_goShake_39 : decode cX10_goShake 39 = .ok (.iconst 0, 1) := by decide +kernel
theorem dX10_goShake_40 : decode cX10_goShake 40 = .ok (.invokevirtual 244, 3) := by decide +kernel
theorem dX10_goShake_43 : decode cX10_goShake 43 = .ok (.iload_n 1, 1) := by decide +kernel
theorem dX10_goShake_44 : decode cX10_goShake 44 = .ok (.iconst (-1), 1) := by decide +kernel
theorem dX10_goShake_45 : decode cX10_goShake 45 = .ok (.ixor, 1) := by decide +kernel
theorem dX10_goShake_46 : decode cX10_goShake 46 = .ok (.iand, 1) := by decide +kernel
theorem dX10_goShake_47 : decode cX10_goShake 47 = .ok (.istore_n 2, 1) := by decide +kernel
theorem dX10_goShake_48 : decode cX10_goShake 48 = .ok (.iconst 0, 1) := by decide +kernel
theorem dX10_goShake_49 : decode cX10_goShake 49 = .ok (.istore_n 3, 1) := by decide +kernel
theorem dX10_goShake_50 : decode cX10_goShake 50 = .ok (.iload_n 3, 1) := by decide +kernel
theorem dX10_goShake_51 : decode cX10_goShake 51 = .ok (.aload_n 0, 1) := by decide +kernel
theorem dX10_goShake_52 : decode cX10_goShake 52 = .ok (.getfield 94, 3) := by decide +kernel
theorem dX10_goShake_55 : decode cX10_goShake 55 = .ok (.if_icmp .ge 47, 3) := by decide +kernel
theorem dX10_goShake_58 : decode cX10_goShake 58 = .ok (.iload_n 1, 1) := by decide +kernel
theorem dX10_goShake_59 : decode cX10_goShake 59 = .ok (.iload_n 3, 1) := by decide +kernel
theorem dX10_goShake_60 : decode cX10_goShake 60 = .ok (.invokestatic 227, 3) := by decide +kernel
theorem dX10_goShake_63 : decode cX10_goShake 63 = .ok (.ifCond .ne 6, 3) := by decide +kernel
theorem dX10_goShake_66 : decode cX10_goShake 66 = .ok (.goto 30, 3) := by decide +kernel
theorem dX10_goShake_69 : decode cX10_goShake 69 = .ok (.aload_n 0, 1) := by decide +kernel
theorem dX10_goShake_70 : decode cX10_goShake 70 = .ok (.getfield 9, 3) := by decide +kernel
theorem dX10_goShake_73 : decode cX10_goShake 73 = .ok (.iload_n 3, 1) := by decide +kernel
theorem dX10_goShake_74 : decode cX10_goShake 74 = .ok (.iconst 3, 1) := by decide +kernel
theorem dX10_goShake_75 : decode cX10_goShake 75 = .ok (.iastore, 1) := by decide +kernel
theorem dX10_goShake_76 : decode cX10_goShake 76 = .ok (.aload_n 0, 1) := by decide +kernel
theorem dX10_goShake_77 : decode cX10_goShake 77 = .ok (.getfield 9, 3) := by decide +kernel
theorem dX10_goShake_80 : decode cX10_goShake 80 = .ok (.bipush 16, 2) := by decide +kernel
theorem dX10_goShake_82 : decode cX10_goShake 82 = .ok (.dup2, 1) := by decide +kernel
theorem dX10_goShake_83 : decode cX10_goShake 83 = .ok (.iaload, 1) := by decide +kernel
theorem dX10_goShake_84 : decode cX10_goShake 84 = .ok (.iconst 1, 1) := by decide +kernel
theorem dX10_goShake_85 : decode cX10_goShake 85 = .ok (.iload_n 3, 1) := by decide +kernel
theorem dX10_goShake_86 : decode cX10_goShake 86 = .ok (.ishl, 1) := by decide +kernel
theorem dX10_goShake_87 : decode cX10_goShake 87 = .ok (.aload_n 0, 1) := by decide +kernel
theorem dX10_goShake_88 : decode cX10_goShake 88 = .ok (.iload_n 3, 1) := by decide +kernel
theorem dX10_goShake_89 : decode cX10_goShake 89 = .ok (.iload_n 2, 1) := by decide +kernel
theorem dX10_goShake_90 : decode cX10_goShake 90 = .ok (.invokevirtual 248, 3) := by decide +kernel
theorem dX10_goShake_93 : decode cX10_goShake 93 = .ok (.ior, 1) := by decide +kernel
theorem dX10_goShake_94 : decode cX10_goShake 94 = .ok (.ior, 1) := by decide +kernel
theorem dX10_goShake_95 : decode cX10_goShake 95 = .ok (.iastore, 1) := by decide +kernel
theorem dX10_goShake_96 : decode cX10_goShake 96 = .ok (.iinc 3 1, 3) := by decide +kernel
theorem dX10_goShake_99 : decode cX10_goShake 99 = .ok (.goto (-49), 3) := by decide +kernel
theorem dX10_goShake_102 : decode cX10_goShake 102 = .ok (.aload_n 0, 1) := by decide +kernel
theorem dX10_goShake_103 : decode cX10_goShake 103 = .ok (.iconst 5, 1) := by decide +kernel
theorem dX10_goShake_104 : decode cX10_goShake 104 = .ok (.invokevirtual 267, 3) := by decide +kernel
theorem dX10_goShake_107 : decode cX10_goShake 107 = .ok (.iload_n 1, 1) := by decide +kernel
theorem dX10_goShake_108 : decode cX10_goShake 108 = .ok (.invokestatic 280, 3) := by decide +kernel
theorem dX10_goShake_111 : decode cX10_goShake 111 = .ok (.ireturn, 1) := by decide +kernel
theorem dX10_shake_0 : decode cX10_shake 0 = .ok (.aload_n 0, 1) := by decide +kernel
theorem dX10_shake_1 : decode cX10_shake 1 = .ok (.iconst 0, 1) := by decide +kernel
theorem dX10_shake_2 : decode cX10_shake 2 = .ok (.putfield 87, 3) := by decide +kernel
theorem dX10_shake_5 : decode cX10_shake 5 = .ok (.aload_n 0, 1) := by decide +kernel
theorem dX10_shake_6 : decode cX10_shake 6 = .ok (.getfield 9, 3) := by decide +kernel
theorem dX10_shake_9 : decode cX10_shake 9 = .ok (.bipush 17, 2) := by decide +kernel
theorem dX10_shake_11 : decode cX10_shake 11 = .ok (.iaload, 1) := by decide +kernel
theorem dX10_shake_12 : decode cX10_shake 12 = .ok (.iconst (-1), 1) := by decide +kernel
theorem dX10_shake_13 : decode cX10_shake 13 = .ok (.if_icmp .ne 6, 3) := by decide +kernel
theorem dX10_shake_16 : decode cX10_shake 16 = .ok (.bipush (-2), 2) := by decide +kernel
theorem dX10_shake_18 : decode cX10_shake 18 = .ok (.ireturn, 1) := by decide +kernel
theorem dX10_shake_19 : decode cX10_shake 19 = .ok (.aload_n 0, 1) := by decide +kernel
theorem dX10_shake_20 : decode cX10_shake 20 = .ok (.aload_n 0, 1) := by decide +kernel
theorem dX10_shake_21 : decode cX10_shake 21 = .ok (.getfield 9, 3) := by decide +kernel
theorem dX10_shake_24 : decode cX10_shake 24 = .ok (.invokevirtual 273, 3) := by decide +kernel
theorem dX10_shake_27 : decode cX10_shake 27 = .ok (.aload_n 0, 1) := by decide +kernel
theorem dX10_shake_28 : decode cX10_shake 28 = .ok (.invokevirtual 307, 3) := by decide +kernel
theorem dX10_shake_31 : decode cX10_shake 31 = .ok (.ireturn, 1) := by decide +kernel
theorem dX10_goSleep_0 : decode cX10_goSleep 0 = .ok (.aload_n 0, 1) := by decide +kernel
theorem dX10_goSleep_1 : decode cX10_goSleep 1 = .ok (.invokevirtual 264, 3) := by decide +kernel
theorem dX10_goSleep_4 : decode cX10_goSleep 4 = .ok (.pop, 1) := by decide +kernel
theorem dX10_goSleep_5 : decode cX10_goSleep 5 = .ok (.aload_n 0, 1) := by decide +kernel
theorem dX10_goSleep_6 : decode cX10_goSleep 6 = .ok (.getfield 9, 3) := by decide +kernel
theorem dX10_goSleep_9 : decode cX10_goSleep 9 = .ok (.bipush 17, 2) := by decide +kernel
theorem dX10_goSleep_11 : decode cX10_goSleep 11 = .ok (.iconst (-1), 1) := by decide +kernel
theorem dX10_goSleep_12 : decode cX10_goSleep 12 = .ok (.iastore, 1) := by decide +kernel
theorem dX10_goSleep_13 : decode cX10_goSleep 13 = .ok (.aload_n 0, 1) := by decide +kernel
theorem dX10_goSleep_14 : decode cX10_goSleep 14 = .ok (.getfield 9, 3) := by decide +kernel
theorem dX10_goSleep_17 : decode cX10_goSleep 17 = .ok (.bipush 20, 2) := by decide +kernel
theorem dX10_goSleep_19 : decode cX10_goSleep 19 = .ok (.iconst 0, 1) := by decide +kernel
theorem dX10_goSleep_20 : decode cX10_goSleep 20 = .ok (.iastore, 1) := by decide +kernel
theorem dX10_goSleep_21 : decode cX10_goSleep 21 = .ok (.aload_n 0, 1) := by decide +kernel
theorem dX10_goSleep_22 : decode cX10_goSleep 22 = .ok (.getfield 9, 3) := by decide +kernel
theorem dX10_goSleep_25 : decode cX10_goSleep 25 = .ok (.bipush 19, 2) := by decide +kernel
theorem dX10_goSleep_27 : decode cX10_goSleep 27 = .ok (.dup2, 1) := by decide +kernel
theorem dX10_goSleep_28 : decode cX10_goSleep 28 = .ok (.iaload, 1) := by decide +kernel
theorem dX10_goSleep_29 : decode cX10_goSleep 29 = .ok (.iconst 1, 1) := by decide +kernel
theorem dX10_goSleep_30 : decode cX10_goSleep 30 = .ok (.iadd, 1) := by decide +kernel
theorem dX10_goSleep_31 : decode cX10_goSleep 31 = .ok (.iastore, 1) := by decide +kernel
theorem dX10_goSleep_32 : decode cX10_goSleep 32 = .ok (.aload_n 0, 1) := by decide +kernel
theorem dX10_goSleep_33 : decode cX10_goSleep 33 = .ok (.getfield 9, 3) := by decide +kernel
theorem dX10_goSleep_36 : decode cX10_goSleep 36 = .ok (.bipush 19, 2) := by decide +kernel
theorem dX10_goSleep_38 : decode cX10_goSleep 38 = .ok (.iaload, 1) := by decide +kernel
theorem dX10_goSleep_39 : decode cX10_goSleep 39 = .ok (.ireturn, 1) := by decide +kernel
theorem dX10_sleep_0 : decode cX10_sleep 0 = .ok (.aload_n 0, 1) := by decide +kernel
theorem dX10_sleep_1 : decode cX10_sleep 1 = .ok (.iconst 0, 1) := by decide +kernel
theorem dX10_sleep_2 : decode cX10_sleep 2 = .ok (.putfield 87, 3) := by decide +kernel
theorem dX10_sleep_5 : decode cX10_sleep 5 = .ok (.aload_n 0, 1) := by decide +kernel
theorem dX10_sleep_6 : decode cX10_sleep 6 = .ok (.getfield 9, 3) := by decide +kernel
theorem dX10_sleep_9 : decode cX10_sleep 9 = .ok (.bipush 19, 2) := by decide +kernel
theorem dX10_sleep_11 : decode cX10_sleep 11 = .ok (.iaload, 1) := by decide +kernel
theorem dX10_sleep_12 : decode cX10_sleep 12 = .ok (.bipush 9, 2) := by decide +kernel
theorem dX10_sleep_14 : decode cX10_sleep 14 = .ok (.if_icmp .ne 5, 3) := by decide +kernel
theorem dX10_sleep_17 : decode cX10_sleep 17 = .ok (.iconst (-1), 1) := by decide +kernel
theorem dX10_sleep_18 : decode cX10_sleep 18 = .ok (.ireturn, 1) := by decide +kernel
theorem dX10_sleep_19 : decode cX10_sleep 19 = .ok (.aload_n 0, 1) := by decide +kernel
theorem dX10_sleep_20 : decode cX10_sleep 20 = .ok (.aload_n 0, 1) := by decide +kernel
theorem dX10_sleep_21 : decode cX10_sleep 21 = .ok (.getfield 9, 3) := by decide +kernel
theorem dX10_sleep_24 : decode cX10_sleep 24 = .ok (.invokevirtual 273, 3) := by decide +kernel
theorem dX10_sleep_27 : decode cX10_sleep 27 = .ok (.aload_n 0, 1) := by decide +kernel
theorem dX10_sleep_28 : decode cX10_sleep 28 = .ok (.invokevirtual 310, 3) := by decide +kernel
theorem dX10_sleep_31 : decode cX10_sleep 31 = .ok (.ireturn, 1) := by decide +kernel
theorem dX10_readAct_0 : decode cX10_readAct 0 = .ok (.aload_n 0, 1) := by decide +kernel
theorem dX10_readAct_1 : decode cX10_readAct 1 = .ok (.invokevirtual 126, 3) := by decide +kernel
theorem dX10_readAct_4 : decode cX10_readAct 4 = .ok (.istore_n 2, 1) := by decide +kernel
theorem dX10_readAct_5 : decode cX10_readAct 5 = .ok (.iload_n 2, 1) := by decide +kernel
theorem dX10_readAct_6 : decode cX10_readAct 6 = .ok (.bipush 109, 2) := by decide +kernel
theorem dX10_readAct_8 : decode cX10_readAct 8 = .ok (.if_icmp .eq 53, 3) := by decide +kernel
theorem dX10_readAct_11 : decode cX10_readAct 11 = .ok (.iload_n 2, 1) := by decide +kernel
theorem dX10_readAct_12 : decode cX10_readAct 12 = .ok (.bipush 112, 2) := by decide +kernel
theorem dX10_readAct_14 : decode cX10_readAct 14 = .ok (.if_icmp .eq 47, 3) := by decide +kernel
theorem dX10_readAct_17 : decode cX10_readAct 17 = .ok (.iload_n 2, 1) := by decide +kernel
theorem dX10_readAct_18 : decode cX10_readAct 18 = .ok (.bipush 104, 2) := by decide +kernel
theorem dX10_readAct_20 : decode cX10_readAct 20 = .ok (.if_icmp .eq 41, 3) := by decide +kernel
theorem dX10_readAct_23 : decode cX10_readAct 23 = .ok (.iload_n 2, 1) := by decide +kernel
theorem dX10_readAct_24 : decode cX10_readAct 24 = .ok (.bipush 100, 2) := by decide +kernel
theorem dX10_readAct_26 : decode cX10_readAct 26 = .ok (.if_icmp .eq 35, 3) := by decide +kernel
theorem dX10_readAct_29 : decode cX10_readAct 29 = .ok (.iload_n 2, 1) := by decide +kernel
theorem dX10_readAct_30 : decode cX10_readAct 30 = .ok (.bipush 107, 2) := by decide +kernel
theorem dX10_readAct_32 : decode cX10_readAct 32 = .ok (.if_icmp .eq 29, 3) := by decide +kernel
theorem dX10_readAct_35 : decode cX10_readAct 35 = .ok (.iload_n 2, 1) := by decide +kernel
theorem dX10_readAct_36 : decode cX10_readAct 36 = .ok (.bipush 97, 2) := by decide +kernel
theorem dX10_readAct_38 : decode cX10_readAct 38 = .ok (.if_icmp .eq 23, 3) := by decide +kernel
theorem dX10_readAct_41 : decode cX10_readAct 41 = .ok (.iload_n 2, 1) := by decide +kernel
theorem dX10_readAct_42 : decode cX10_readAct 42 = .ok (.bipush 111, 2) := by decide +kernel
theorem dX10_readAct_44 : decode cX10_readAct 44 = .ok (.if_icmp .eq 17, 3) := by decide +kernel
theorem dX10_readAct_47 : decode cX10_readAct 47 = .ok (.iload_n 2, 1) := by decide +kernel
theorem dX10_readAct_48 : decode cX10_readAct 48 = .ok (.bipush 122, 2) := by decide +kernel
theorem dX10_readAct_50 : decode cX10_readAct 50 = .ok (.if_icmp .eq 11, 3) := by decide +kernel
theorem dX10_readAct_53 : decode cX10_readAct 53 = .ok (.aload_n 0, 1) := by decide +kernel
theorem dX10_readAct_54 : decode cX10_readAct 54 = .ok (.aload_n 0, 1) := by decide +kernel
theorem dX10_readAct_55 : decode cX10_readAct 55 = .ok (.getfield 116, 3) := by decide +kernel
theorem dX10_readAct_58 : decode cX10_readAct 58 = .ok (.invokevirtual 134, 3) := by decide +kernel
theorem dX10_readAct_61 : decode cX10_readAct 61 = .ok (.aload_n 0, 1) := by decide +kernel
theorem dX10_readAct_62 : decode cX10_readAct 62 = .ok (.dup, 1) := by decide +kernel
theorem dX10_readAct_63 : decode cX10_readAct 63 = .ok (.getfield 116, 3) := by decide +kernel
theorem dX10_readAct_66 : decode cX10_readAct 66 = .ok (.iconst 1, 1) := by decide +kernel
theorem dX10_readAct_67 : decode cX10_readAct 67 = .ok (.iadd, 1) := by decide +kernel
theorem dX10_readAct_68 : decode cX10_readAct 68 = .ok (.putfield 116, 3) := by decide +kernel
theorem dX10_readAct_71 : decode cX10_readAct 71 = .ok (.aload_n 0, 1) := by decide +kernel
theorem dX10_readAct_72 : decode cX10_readAct 72 = .ok (.getfield 56, 3) := by decide +kernel
theorem dX10_readAct_75 : decode cX10_readAct 75 = .ok (.iload_n 1, 1) := by decide +kernel
theorem dX10_readAct_76 : decode cX10_readAct 76 = .ok (.iload_n 2, 1) := by decide +kernel
theorem dX10_readAct_77 : decode cX10_readAct 77 = .ok (.iastore, 1) := by decide +kernel
theorem dX10_readAct_78 : decode cX10_readAct 78 = .ok (.iload_n 2, 1) := by decide +kernel
theorem dX10_readAct_79 : decode cX10_readAct 79 = .ok (.bipush 109, 2) := by decide +kernel
theorem dX10_readAct_81 : decode cX10_readAct 81 = .ok (.if_icmp .ne 16, 3) := by decide +kernel
theorem dX10_readAct_84 : decode cX10_readAct 84 = .ok (.aload_n 0, 1) := by decide +kernel
theorem dX10_readAct_85 : decode cX10_readAct 85 = .ok (.getfield 56, 3) := by decide +kernel
theorem dX10_readAct_88 : decode cX10_readAct 88 = .ok (.iload_n 1, 1) := by decide +kernel
theorem dX10_readAct_89 : decode cX10_readAct 89 = .ok (.iconst 1, 1) := by decide +kernel
theorem dX10_readAct_90 : decode cX10_readAct 90 = .ok (.iadd, 1) := by decide +kernel
theorem dX10_readAct_91 : decode cX10_readAct 91 = .ok (.aload_n 0, 1) := by decide +kernel
theorem dX10_readAct_92 : decode cX10_readAct 92 = .ok (.iconst 1, 1) := by decide +kernel
theorem dX10_readAct_93 : decode cX10_readAct 93 = .ok (.invokevirtual 141, 3) := by decide +kernel
theorem dX10_readAct_96 : decode cX10_readAct 96 = .ok (.iastore, 1) := by decide +kernel
theorem dX10_readAct_97 : decode cX10_readAct 97 = .ok (.iload_n 2, 1) := by decide +kernel
theorem dX10_readAct_98 : decode cX10_readAct 98 = .ok (.bipush 112, 2) := by decide +kernel
theorem dX10_readAct_100 : decode cX10_readAct 100 = .ok (.if_icmp .eq 9, 3) := by decide +kernel
theorem dX10_readAct_103 : decode cX10_readAct 103 = .ok (.iload_n 2, 1) := by decide +kernel
theorem dX10_readAct_104 : decode cX10_readAct 104 = .ok (.bipush 104, 2) := by decide +kernel
theorem dX10_readAct_106 : decode cX10_readAct 106 = .ok (.if_icmp .ne 16, 3) := by decide +kernel
theorem dX10_readAct_109 : decode cX10_readAct 109 = .ok (.aload_n 0, 1) := by decide +kernel
theorem dX10_readAct_110 : decode cX10_readAct 110 = .ok (.getfield 56, 3) := by decide +kernel
theorem dX10_readAct_113 : decode cX10_readAct 113 = .ok (.iload_n 1, 1) := by decide +kernel
theorem dX10_readAct_114 : decode cX10_readAct 114 = .ok (.iconst 1, 1) := by decide +kernel
theorem dX10_readAct_115 : decode cX10_readAct 115 = .ok (.iadd, 1) := by decide +kernel
theorem dX10_readAct_116 : decode cX10_readAct 116 = .ok (.aload_n 0, 1) := by decide +kernel
theorem dX10_readAct_117 : decode cX10_readAct 117 = .ok (.iconst 2, 1) := by decide +kernel
theorem dX10_readAct_118 : decode cX10_readAct 118 = .ok (.invokevirtual 141, 3) := by decide +kernel
theorem dX10_readAct_121 : decode cX10_readAct 121 = .ok (.iastore, 1) := by decide +kernel
theorem dX10_readAct_122 : decode cX10_readAct 122 = .ok (.return_, 1) := by decide +kernel
theorem dX10_act_0 : decode cX10_act 0 = .ok (.iload_n 1, 1) := by decide +kernel
theorem dX10_act_1 : decode cX10_act 1 = .ok (.tableswitch 195 97 112 #[175, 195, 195, 139, 195, 195, 195, 97, 195, 195, 155, 195, 79, 195, 175, 97], 79) := by decide +kernel
theorem dX10_act_80 : decode cX10_act 80 = .ok (.aload_n 0, 1) := by decide +kernel
theorem dX10_act_81 : decode cX10_act 81 = .ok (.iload_n 2, 1) := by decide +kernel
theorem dX10_act_82 : decode cX10_act 82 = .ok (.invokevirtual 270, 3) := by decide +kernel
theorem dX10_act_85 : decode cX10_act 85 = .ok (.ifCond .ge 5, 3) := by decide +kernel
theorem dX10_act_88 : decode cX10_act 88 = .ok (.iconst 0, 1) := by decide +kernel
theorem dX10_act_89 : decode cX10_act 89 = .ok (.ireturn, 1) := by decide +kernel
theorem dX10_act_90 : decode cX10_act 90 = .ok (.aload_n 0, 1) := by decide +kernel
theorem dX10_act_91 : decode cX10_act 91 = .ok (.iload_n 2, 1) := by decide +kernel
theorem dX10_act_92 : decode cX10_act 92 = .ok (.invokevirtual 277, 3) := by decide +kernel
theorem dX10_act_95 : decode cX10_act 95 = .ok (.pop, 1) := by decide +kernel
theorem dX10_act_96 : decode cX10_act 96 = .ok (.iconst 1, 1) := by decide +kernel
theorem dX10_act_97 : decode cX10_act 97 = .ok (.ireturn, 1) := by decide +kernel
theorem dX10_act_98 : decode cX10_act 98 = .ok (.iload_n 1, 1) := by decide +kernel
theorem dX10_act_99 : decode cX10_act 99 = .ok (.bipush 104, 2) := by decide +kernel
theorem dX10_act_101 : decode cX10_act 101 = .ok (.if_icmp .ne 7, 3) := by decide +kernel
theorem dX10_act_104 : decode cX10_act 104 = .ok (.iconst 1, 1) := by decide +kernel
theorem dX10_act_105 : decode cX10_act 105 = .ok (.goto 4, 3) := by decide +kernel
theorem dX10_act_108 : decode cX10_act 108 = .ok (.iconst 0, 1) := by decide +kernel
theorem dX10_act_109 : decode cX10_act 109 = .ok (.istore_n 3, 1) := by decide +kernel
theorem dX10_act_110 : decode cX10_act 110 = .ok (.aload_n 0, 1) := by decide +kernel
theorem dX10_act_111 : decode cX10_act 111 = .ok (.iload_n 2, 1) := by decide +kernel
theorem dX10_act_112 : decode cX10_act 112 = .ok (.iload_n 3, 1) := by decide +kernel
theorem dX10_act_113 : decode cX10_act 113 = .ok (.invokevirtual 289, 3) := by decide +kernel
theorem dX10_act_116 : decode cX10_act 116 = .ok (.ifCond .ge 5, 3) := by decide +kernel
theorem dX10_act_119 : decode cX10_act 119 = .ok (.iconst 0, 1) := by decide +kernel
theorem dX10_act_120 : decode cX10_act 120 = .ok (.ireturn, 1) := by decide +kernel
theorem dX10_act_121 : decode cX10_act 121 = .ok (.aload_n 0, 1) := by decide +kernel
theorem dX10_act_122 : decode cX10_act 122 = .ok (.iload_n 2, 1) := by decide +kernel
theorem dX10_act_123 : decode cX10_act 123 = .ok (.iload_n 3, 1) := by decide +kernel
theorem dX10_act_124 : decode cX10_act 124 = .ok (.invokevirtual 292, 3) := by decide +kernel
theorem dX10_act_127 : decode cX10_act 127 = .ok (.pop, 1) := by decide +kernel
theorem dX10_act_128 : decode cX10_act 128 = .ok (.aload_n 0, 1) := by decide +kernel
theorem dX10_act_129 : decode cX10_act 129 = .ok (.dup, 1) := by decide +kernel
theorem dX10_act_130 : decode cX10_act 130 = .ok (.getfield 316, 3) := by decide +kernel
theorem dX10_act_133 : decode cX10_act 133 = .ok (.iconst 1, 1) := by decide +kernel
theorem dX10_act_134 : decode cX10_act 134 = .ok (.iadd, 1) := by decide +kernel
theorem dX10_act_135 : decode cX10_act 135 = .ok (.putfield 316, 3) := by decide +kernel
theorem dX10_act_138 : decode cX10_act 138 = .ok (.iconst 1, 1) := by decide +kernel
theorem dX10_act_139 : decode cX10_act 139 = .ok (.ireturn, 1) := by decide +kernel
theorem dX10_act_140 : decode cX10_act 140 = .ok (.aload_n 0, 1) := by decide +kernel
theorem dX10_act_141 : decode cX10_act 141 = .ok (.invokevirtual 295, 3) := by decide +kernel
theorem dX10_act_144 : decode cX10_act 144 = .ok (.ifCond .ne 5, 3) := by decide +kernel
theorem dX10_act_147 : decode cX10_act 147 = .ok (.iconst 0, 1) := by decide +kernel
theorem dX10_act_148 : decode cX10_act 148 = .ok (.ireturn, 1) := by decide +kernel
theorem dX10_act_149 : decode cX10_act 149 = .ok (.aload_n 0, 1) := by decide +kernel
theorem dX10_act_150 : decode cX10_act 150 = .ok (.invokevirtual 298, 3) := by decide +kernel
theorem dX10_act_153 : decode cX10_act 153 = .ok (.pop, 1) := by decide +kernel
theorem dX10_act_154 : decode cX10_act 154 = .ok (.iconst 1, 1) := by decide +kernel
theorem dX10_act_155 : decode cX10_act 155 = .ok (.ireturn, 1) := by decide +kernel
theorem dX10_act_156 : decode cX10_act 156 = .ok (.aload_n 0, 1) := by decide +kernel
theorem dX10_act_157 : decode cX10_act 157 = .ok (.getfield 9, 3) := by decide +kernel
theorem dX10_act_160 : decode cX10_act 160 = .ok (.bipush 17, 2) := by decide +kernel
theorem dX10_act_162 : decode cX10_act 162 = .ok (.iaload, 1) := by decide +kernel
theorem dX10_act_163 : decode cX10_act 163 = .ok (.iconst (-1), 1) := by decide +kernel
theorem dX10_act_164 : decode cX10_act 164 = .ok (.if_icmp .ne 5, 3) := by decide +kernel
theorem dX10_act_167 : decode cX10_act 167 = .ok (.iconst 0, 1) := by decide +kernel
theorem dX10_act_168 : decode cX10_act 168 = .ok (.ireturn, 1) := by decide +kernel
theorem dX10_act_169 : decode cX10_act 169 = .ok (.aload_n 0, 1) := by decide +kernel
theorem dX10_act_170 : decode cX10_act 170 = .ok (.invokevirtual 307, 3) := by decide +kernel
theorem dX10_act_173 : decode cX10_act 173 = .ok (.pop, 1) := by decide +kernel
theorem dX10_act_174 : decode cX10_act 174 = .ok (.iconst 1, 1) := by decide +kernel
theorem dX10_act_175 : decode cX10_act 175 = .ok (.ireturn, 1) := by decide +kernel
theorem dX10_act_176 : decode cX10_act 176 = .ok (.aload_n 0, 1) := by decide +kernel
theorem dX10_act_177 : decode cX10_act 177 = .ok (.getfield 9, 3) := by decide +kernel
theorem dX10_act_180 : decode cX10_act 180 = .ok (.bipush 18, 2) := by decide +kernel
theorem dX10_act_182 : decode cX10_act 182 = .ok (.iload_n 1, 1) := by decide +kernel
theorem dX10_act_183 : decode cX10_act 183 = .ok (.bipush 97, 2) := by decide +kernel
theorem dX10_act_185 : decode cX10_act 185 = .ok (.if_icmp .ne 7, 3) := by decide +kernel
theorem dX10_act_188 : decode cX10_act 188 = .ok (.iconst 1, 1) := by decide +kernel
theorem dX10_act_189 : decode cX10_act 189 = .ok (.goto 4, 3) := by decide +kernel
theorem dX10_act_192 : decode cX10_act 192 = .ok (.iconst 0, 1) := by decide +kernel
theorem dX10_act_193 : decode cX10_act 193 = .ok (.iastore, 1) := by decide +kernel
theorem dX10_act_194 : decode cX10_act 194 = .ok (.iconst 1, 1) := by decide +kernel
theorem dX10_act_195 : decode cX10_act 195 = .ok (.ireturn, 1) := by decide +kernel
theorem dX10_act_196 : decode cX10_act 196 = .ok (.aload_n 0, 1) := by decide +kernel
theorem dX10_act_197 : decode cX10_act 197 = .ok (.getfield 9, 3) := by decide +kernel
theorem dX10_act_200 : decode cX10_act 200 = .ok (.bipush 19, 2) := by decide +kernel
theorem dX10_act_202 : decode cX10_act 202 = .ok (.iaload, 1) := by decide +kernel
theorem dX10_act_203 : decode cX10_act 203 = .ok (.bipush 9, 2) := by decide +kernel
theorem dX10_act_205 : decode cX10_act 205 = .ok (.if_icmp .ne 5, 3) := by decide +kernel
theorem dX10_act_208 : decode cX10_act 208 = .ok (.iconst 0, 1) := by decide +kernel
theorem dX10_act_209 : decode cX10_act 209 = .ok (.ireturn, 1) := by decide +kernel
theorem dX10_act_210 : decode cX10_act 210 = .ok (.aload_n 0, 1) := by decide +kernel
theorem dX10_act_211 : decode cX10_act 211 = .ok (.invokevirtual 310, 3) := by decide +kernel
theorem dX10_act_214 : decode cX10_act 214 = .ok (.pop, 1) := by decide +kernel
theorem dX10_act_215 : decode cX10_act 215 = .ok (.iconst 1, 1) := by decide +kernel
theorem dX10_act_216 : decode cX10_act 216 = .ok (.ireturn, 1) := by decide +kernel
theorem dX10_tell_0 : decode cX10_tell 0 = .ok (.aload_n 0, 1) := by decide +kernel
theorem dX10_tell_1 : decode cX10_tell 1 = .ok (.getfield 38, 3) := by decide +kernel
theorem dX10_tell_4 : decode cX10_tell 4 = .ok (.aload_n 0, 1) := by decide +kernel
theorem dX10_tell_5 : decode cX10_tell 5 = .ok (.getfield 91, 3) := by decide +kernel
theorem dX10_tell_8 : decode cX10_tell 8 = .ok (.iload_n 1, 1) := by decide +kernel
theorem dX10_tell_9 : decode cX10_tell 9 = .ok (.iastore, 1) := by decide +kernel
theorem dX10_tell_10 : decode cX10_tell 10 = .ok (.aload_n 0, 1) := by decide +kernel
theorem dX10_tell_11 : decode cX10_tell 11 = .ok (.dup, 1) := by decide +kernel
theorem dX10_tell_12 : decode cX10_tell 12 = .ok (.getfield 91, 3) := by decide +kernel
theorem dX10_tell_15 : decode cX10_tell 15 = .ok (.iconst 1, 1) := by decide +kernel
theorem dX10_tell_16 : decode cX10_tell 16 = .ok (.iadd, 1) := by decide +kernel
theorem dX10_tell_17 : decode cX10_tell 17 = .ok (.putfield 91, 3) := by decide +kernel
theorem dX10_tell_20 : decode cX10_tell 20 = .ok (.return_, 1) := by decide +kernel
theorem dX10_day_0 : decode cX10_day 0 = .ok (.aload_n 0, 1) := by decide +kernel
theorem dX10_day_1 : decode cX10_day 1 = .ok (.iconst 0, 1) := by decide +kernel
theorem dX10_day_2 : decode cX10_day 2 = .ok (.putfield 87, 3) := by decide +kernel
theorem dX10_day_5 : decode cX10_day 5 = .ok (.aload_n 0, 1) := by decide +kernel
theorem dX10_day_6 : decode cX10_day 6 = .ok (.aload_n 0, 1) := by decide +kernel
theorem dX10_day_7 : decode cX10_day 7 = .ok (.getfield 34, 3) := by decide +kernel
theorem dX10_day_10 : decode cX10_day 10 = .ok (.aload_n 0, 1) := by decide +kernel
theorem dX10_day_11 : decode cX10_day 11 = .ok (.getfield 104, 3) := by decide +kernel
theorem dX10_day_14 : decode cX10_day 14 = .ok (.bipush 60, 2) := by decide +kernel
theorem dX10_day_16 : decode cX10_day 16 = .ok (.invokevirtual 152, 3) := by decide +kernel
theorem dX10_day_19 : decode cX10_day 19 = .ok (.aload_n 0, 1) := by decide +kernel
theorem dX10_day_20 : decode cX10_day 20 = .ok (.iconst 0, 1) := by decide +kernel
theorem dX10_day_21 : decode cX10_day 21 = .ok (.putfield 104, 3) := by decide +kernel
theorem dX10_day_24 : decode cX10_day 24 = .ok (.iconst 0, 1) := by decide +kernel
theorem dX10_day_25 : decode cX10_day 25 = .ok (.istore_n 1, 1) := by decide +kernel
theorem dX10_day_26 : decode cX10_day 26 = .ok (.aload_n 0, 1) := by decide +kernel
theorem dX10_day_27 : decode cX10_day 27 = .ok (.getfield 110, 3) := by decide +kernel
theorem dX10_day_30 : decode cX10_day 30 = .ok (.ifCond .le 7, 3) := by decide +kernel
theorem dX10_day_33 : decode cX10_day 33 = .ok (.iconst 1, 1) := by decide +kernel
theorem dX10_day_34 : decode cX10_day 34 = .ok (.goto 4, 3) := by decide +kernel
theorem dX10_day_37 : decode cX10_day 37 = .ok (.iconst 0, 1) := by decide +kernel
theorem dX10_day_38 : decode cX10_day 38 = .ok (.istore_n 2, 1) := by decide +kernel
theorem dX10_day_39 : decode cX10_day 39 = .ok (.iload_n 2, 1) := by decide +kernel
theorem dX10_day_40 : decode cX10_day 40 = .ok (.ifCond .eq 30, 3) := by decide +kernel
theorem dX10_day_43 : decode cX10_day 43 = .ok (.aload_n 0, 1) := by decide +kernel
theorem dX10_day_44 : decode cX10_day 44 = .ok (.invokevirtual 122, 3) := by decide +kernel
theorem dX10_day_47 : decode cX10_day 47 = .ok (.ifCond .eq 23, 3) := by decide +kernel
theorem dX10_day_50 : decode cX10_day 50 = .ok (.aload_n 0, 1) := by decide +kernel
theorem dX10_day_51 : decode cX10_day 51 = .ok (.iconst 2, 1) := by decide +kernel
theorem dX10_day_52 : decode cX10_day 52 = .ok (.iload_n 1, 1) := by decide +kernel
theorem dX10_day_53 : decode cX10_day 53 = .ok (.imul, 1) := by decide +kernel
theorem dX10_day_54 : decode cX10_day 54 = .ok (.invokevirtual 313, 3) := by decide +kernel
theorem dX10_day_57 : decode cX10_day 57 = .ok (.iinc 1 1, 3) := by decide +kernel
theorem dX10_day_60 : decode cX10_day 60 = .ok (.aload_n 0, 1) := by decide +kernel
theorem dX10_day_61 : decode cX10_day 61 = .ok (.bipush 59, 2) := by decide +kernel
theorem dX10_day_63 : decode cX10_day 63 = .ok (.invokevirtual 130, 3) := by decide +kernel
theorem dX10_day_66 : decode cX10_day 66 = .ok (.istore_n 2, 1) := by decide +kernel
theorem dX10_day_67 : decode cX10_day 67 = .ok (.goto (-28), 3) := by decide +kernel
theorem dX10_day_70 : decode cX10_day 70 = .ok (.aload_n 0, 1) := by decide +kernel
theorem dX10_day_71 : decode cX10_day 71 = .ok (.getfield 116, 3) := by decide +kernel
theorem dX10_day_74 : decode cX10_day 74 = .ok (.aload_n 0, 1) := by decide +kernel
theorem dX10_day_75 : decode cX10_day 75 = .ok (.getfield 110, 3) := by decide +kernel
theorem dX10_day_78 : decode cX10_day 78 = .ok (.if_icmp .ge 11, 3) := by decide +kernel
theorem dX10_day_81 : decode cX10_day 81 = .ok (.aload_n 0, 1) := by decide +kernel
theorem dX10_day_82 : decode cX10_day 82 = .ok (.aload_n 0, 1) := by decide +kernel
theorem dX10_day_83 : decode cX10_day 83 = .ok (.getfield 116, 3) := by decide +kernel
theorem dX10_day_86 : decode cX10_day 86 = .ok (.invokevirtual 134, 3) := by decide +kernel
theorem dX10_day_89 : decode cX10_day 89 = .ok (.aload_n 0, 1) := by decide +kernel
theorem dX10_day_90 : decode cX10_day 90 = .ok (.invokevirtual 122, 3) := by decide +kernel
theorem dX10_day_93 : decode cX10_day 93 = .ok (.ifCond .ne 10, 3) := by decide +kernel
theorem dX10_day_96 : decode cX10_day 96 = .ok (.iconst (-1), 1) := by decide +kernel
theorem dX10_day_97 : decode cX10_day 97 = .ok (.aload_n 0, 1) := by decide +kernel
theorem dX10_day_98 : decode cX10_day 98 = .ok (.getfield 119, 3) := by decide +kernel
theorem dX10_day_101 : decode cX10_day 101 = .ok (.isub, 1) := by decide +kernel
theorem dX10_day_102 : decode cX10_day 102 = .ok (.ireturn, 1) := by decide +kernel
theorem dX10_day_103 : decode cX10_day 103 = .ok (.aload_n 0, 1) := by decide +kernel
theorem dX10_day_104 : decode cX10_day 104 = .ok (.getfield 9, 3) := by decide +kernel
theorem dX10_day_107 : decode cX10_day 107 = .ok (.aload_n 0, 1) := by decide +kernel
theorem dX10_day_108 : decode cX10_day 108 = .ok (.getfield 53, 3) := by decide +kernel
theorem dX10_day_111 : decode cX10_day 111 = .ok (.iconst 0, 1) := by decide +kernel
theorem dX10_day_112 : decode cX10_day 112 = .ok (.invokestatic 257, 3) := by decide +kernel
theorem dX10_day_115 : decode cX10_day 115 = .ok (.aload_n 0, 1) := by decide +kernel
theorem dX10_day_116 : decode cX10_day 116 = .ok (.iconst 0, 1) := by decide +kernel
theorem dX10_day_117 : decode cX10_day 117 = .ok (.putfield 316, 3) := by decide +kernel
theorem dX10_day_120 : decode cX10_day 120 = .ok (.iconst 0, 1) := by decide +kernel
theorem dX10_day_121 : decode cX10_day 121 = .ok (.istore_n 3, 1) := by decide +kernel
theorem dX10_day_122 : decode cX10_day 122 = .ok (.iload_n 3, 1) := by decide +kernel
theorem dX10_day_123 : decode cX10_day 123 = .ok (.iload_n 1, 1) := by decide +kernel
theorem dX10_day_124 : decode cX10_day 124 = .ok (.if_icmp .ge 34, 3) := by decide +kernel
theorem dX10_day_127 : decode cX10_day 127 = .ok (.aload_n 0, 1) := by decide +kernel
theorem dX10_day_128 : decode cX10_day 128 = .ok (.aload_n 0, 1) := by decide +kernel
theorem dX10_day_129 : decode cX10_day 129 = .ok (.getfield 56, 3) := by decide +kernel
theorem dX10_day_132 : decode cX10_day 132 = .ok (.iconst 2, 1) := by decide +kernel
theorem dX10_day_133 : decode cX10_day 133 = .ok (.iload_n 3, 1) := by decide +kernel
theorem dX10_day_134 : decode cX10_day 134 = .ok (.imul, 1) := by decide +kernel
theorem dX10_day_135 : decode cX10_day 135 = .ok (.iaload, 1) := by decide +kernel
theorem dX10_day_136 : decode cX10_day 136 = .ok (.aload_n 0, 1) := by decide +kernel
theorem dX10_day_137 : decode cX10_day 137 = .ok (.getfield 56, 3) := by decide +kernel
theorem dX10_day_140 : decode cX10_day 140 = .ok (.iconst 2, 1) := by decide +kernel
theorem dX10_day_141 : decode cX10_day 141 = .ok (.iload_n 3, 1) := by decide +kernel
theorem dX10_day_142 : decode cX10_day 142 = .ok (.imul, 1) := by decide +kernel
theorem dX10_day_143 : decode cX10_day 143 = .ok (.iconst 1, 1) := by decide +kernel
theorem dX10_day_144 : decode cX10_day 144 = .ok (.iadd, 1) := by decide +kernel
theorem dX10_day_145 : decode cX10_day 145 = .ok (.iaload, 1) := by decide +kernel
theorem dX10_day_146 : decode cX10_day 146 = .ok (.invokevirtual 319, 3) := by decide +kernel
theorem dX10_day_149 : decode cX10_day 149 = .ok (.ifCond .eq 9, 3) := by decide +kernel
theorem dX10_day_152 : decode cX10_day 152 = .ok (.iinc 3 1, 3) := by decide +kernel
theorem dX10_day_155 : decode cX10_day 155 = .ok (.goto (-33), 3) := by decide +kernel
theorem dX10_day_158 : decode cX10_day 158 = .ok (.iload_n 3, 1) := by decide +kernel
theorem dX10_day_159 : decode cX10_day 159 = .ok (.ifCond .le 11, 3) := by decide +kernel
theorem dX10_day_162 : decode cX10_day 162 = .ok (.aload_n 0, 1) := by decide +kernel
theorem dX10_day_163 : decode cX10_day 163 = .ok (.aload_n 0, 1) := by decide +kernel
theorem dX10_day_164 : decode cX10_day 164 = .ok (.getfield 53, 3) := by decide +kernel
theorem dX10_day_167 : decode cX10_day 167 = .ok (.invokevirtual 273, 3) := by decide +kernel
theorem dX10_day_170 : decode cX10_day 170 = .ok (.aload_n 0, 1) := by decide +kernel
theorem dX10_day_171 : decode cX10_day 171 = .ok (.iconst 0, 1) := by decide +kernel
theorem dX10_day_172 : decode cX10_day 172 = .ok (.putfield 91, 3) := by decide +kernel
theorem dX10_day_175 : decode cX10_day 175 = .ok (.aload_n 0, 1) := by decide +kernel
theorem dX10_day_176 : decode cX10_day 176 = .ok (.iload_n 3, 1) := by decide +kernel
theorem dX10_day_177 : decode cX10_day 177 = .ok (.iload_n 1, 1) := by decide +kernel
theorem dX10_day_178 : decode cX10_day 178 = .ok (.if_icmp .ge 7, 3) := by decide +kernel
theorem dX10_day_181 : decode cX10_day 181 = .ok (.iconst 1, 1) := by decide +kernel
theorem dX10_day_182 : decode cX10_day 182 = .ok (.goto 4, 3) := by decide +kernel
theorem dX10_day_185 : decode cX10_day 185 = .ok (.iconst 0, 1) := by decide +kernel
theorem dX10_day_186 : decode cX10_day 186 = .ok (.invokevirtual 322, 3) := by decide +kernel
theorem dX10_day_189 : decode cX10_day 189 = .ok (.aload_n 0, 1) := by decide +kernel
theorem dX10_day_190 : decode cX10_day 190 = .ok (.aload_n 0, 1) := by decide +kernel
theorem dX10_day_191 : decode cX10_day 191 = .ok (.getfield 316, 3) := by decide +kernel
theorem dX10_day_194 : decode cX10_day 194 = .ok (.invokevirtual 322, 3) := by decide +kernel
theorem dX10_day_197 : decode cX10_day 197 = .ok (.iload_n 3, 1) := by decide +kernel
theorem dX10_day_198 : decode cX10_day 198 = .ok (.ireturn, 1) := by decide +kernel
theorem dX10_undo_0 : decode cX10_undo 0 = .ok (.aload_n 0, 1) := by decide +kernel
theorem dX10_undo_1 : decode cX10_undo 1 = .ok (.iconst 0, 1) := by decide +kernel
theorem dX10_undo_2 : decode cX10_undo 2 = .ok (.putfield 87, 3) := by decide +kernel
theorem dX10_undo_5 : decode cX10_undo 5 = .ok (.aload_n 0, 1) := by decide +kernel
theorem dX10_undo_6 : decode cX10_undo 6 = .ok (.getfield 159, 3) := by decide +kernel
theorem dX10_undo_9 : decode cX10_undo 9 = .ok (.ifCond .ne 5, 3) := by decide +kernel
theorem dX10_undo_12 : decode cX10_undo 12 = .ok (.iconst (-1), 1) := by decide +kernel
theorem dX10_undo_13 : decode cX10_undo 13 = .ok (.ireturn, 1) := by decide +kernel
theorem dX10_undo_14 : decode cX10_undo 14 = .ok (.aload_n 0, 1) := by decide +kernel
theorem dX10_undo_15 : decode cX10_undo 15 = .ok (.dup, 1) := by decide +kernel
theorem dX10_undo_16 : decode cX10_undo 16 = .ok (.getfield 159, 3) := by decide +kernel
theorem dX10_undo_19 : decode cX10_undo 19 = .ok (.iconst 1, 1) := by decide +kernel
theorem dX10_undo_20 : decode cX10_undo 20 = .ok (.isub, 1) := by decide +kernel
theorem dX10_undo_21 : decode cX10_undo 21 = .ok (.putfield 159, 3) := by decide +kernel
theorem dX10_undo_24 : decode cX10_undo 24 = .ok (.iconst 0, 1) := by decide +kernel
theorem dX10_undo_25 : decode cX10_undo 25 = .ok (.istore_n 1, 1) := by decide +kernel
theorem dX10_undo_26 : decode cX10_undo 26 = .ok (.iload_n 1, 1) := by decide +kernel
theorem dX10_undo_27 : decode cX10_undo 27 = .ok (.bipush 21, 2) := by decide +kernel
theorem dX10_undo_29 : decode cX10_undo 29 = .ok (.if_icmp .ge 29, 3) := by decide +kernel
theorem dX10_undo_32 : decode cX10_undo 32 = .ok (.aload_n 0, 1) := by decide +kernel
theorem dX10_undo_33 : decode cX10_undo 33 = .ok (.getfield 9, 3) := by decide +kernel
theorem dX10_undo_36 : decode cX10_undo 36 = .ok (.iload_n 1, 1) := by decide +kernel
theorem dX10_undo_37 : decode cX10_undo 37 = .ok (.aload_n 0, 1) := by decide +kernel
theorem dX10_undo_38 : decode cX10_undo 38 = .ok (.getfield 50, 3) := by decide +kernel
theorem dX10_undo_41 : decode cX10_undo 41 = .ok (.bipush 21, 2) := by decide +kernel
theorem dX10_undo_43 : decode cX10_undo 43 = .ok (.aload_n 0, 1) := by decide +kernel
theorem dX10_undo_44 : decode cX10_undo 44 = .ok (.getfield 159, 3) := by decide +kernel
theorem dX10_undo_47 : decode cX10_undo 47 = .ok (.imul, 1) := by decide +kernel
theorem dX10_undo_48 : decode cX10_undo 48 = .ok (.iload_n 1, 1) := by decide +kernel
theorem dX10_undo_49 : decode cX10_undo 49 = .ok (.iadd, 1) := by decide +kernel
theorem dX10_undo_50 : decode cX10_undo 50 = .ok (.iaload, 1) := by decide +kernel
theorem dX10_undo_51 : decode cX10_undo 51 = .ok (.iastore, 1) := by decide +kernel
theorem dX10_undo_52 : decode cX10_undo 52 = .ok (.iinc 1 1, 3) := by decide +kernel
theorem dX10_undo_55 : decode cX10_undo 55 = .ok (.goto (-29), 3) := by decide +kernel
theorem dX10_undo_58 : decode cX10_undo 58 = .ok (.aload_n 0, 1) := by decide +kernel
theorem dX10_undo_59 : decode cX10_undo 59 = .ok (.getfield 159, 3) := by decide +kernel
theorem dX10_undo_62 : decode cX10_undo 62 = .ok (.ireturn, 1) := by decide +kernel
theorem dX10_reached_0 : decode cX10_reached 0 = .ok (.aload_n 0, 1) := by decide +kernel
theorem dX10_reached_1 : decode cX10_reached 1 = .ok (.iconst 0, 1) := by decide +kernel
theorem dX10_reached_2 : decode cX10_reached 2 = .ok (.putfield 87, 3) := by decide +kernel
theorem dX10_reached_5 : decode cX10_reached 5 = .ok (.aload_n 0, 1) := by decide +kernel
theorem dX10_reached_6 : decode cX10_reached 6 = .ok (.iload_n 1, 1) := by decide +kernel
theorem dX10_reached_7 : decode cX10_reached 7 = .ok (.invokevirtual 251, 3) := by decide +kernel
theorem dX10_reached_10 : decode cX10_reached 10 = .ok (.ifCond .ne 5, 3) := by decide +kernel
theorem dX10_reached_13 : decode cX10_reached 13 = .ok (.iconst (-1), 1) := by decide +kernel
theorem dX10_reached_14 : decode cX10_reached 14 = .ok (.ireturn, 1) := by decide +kernel
theorem dX10_reached_15 : decode cX10_reached 15 = .ok (.aload_n 0, 1) := by decide +kernel
theorem dX10_reached_16 : decode cX10_reached 16 = .ok (.iconst 0, 1) := by decide +kernel
theorem dX10_reached_17 : decode cX10_reached 17 = .ok (.putfield 91, 3) := by decide +kernel
theorem dX10_reached_20 : decode cX10_reached 20 = .ok (.aload_n 0, 1) := by decide +kernel
theorem dX10_reached_21 : decode cX10_reached 21 = .ok (.aload_n 0, 1) := by decide +kernel
theorem dX10_reached_22 : decode cX10_reached 22 = .ok (.iload_n 1, 1) := by decide +kernel
theorem dX10_reached_23 : decode cX10_reached 23 = .ok (.iconst 1, 1) := by decide +kernel
theorem dX10_reached_24 : decode cX10_reached 24 = .ok (.iconst 0, 1) := by decide +kernel
theorem dX10_reached_25 : decode cX10_reached 25 = .ok (.invokevirtual 220, 3) := by decide +kernel
theorem dX10_reached_28 : decode cX10_reached 28 = .ok (.invokevirtual 322, 3) := by decide +kernel
theorem dX10_reached_31 : decode cX10_reached 31 = .ok (.aload_n 0, 1) := by decide +kernel
theorem dX10_reached_32 : decode cX10_reached 32 = .ok (.aload_n 0, 1) := by decide +kernel
theorem dX10_reached_33 : decode cX10_reached 33 = .ok (.iload_n 1, 1) := by decide +kernel
theorem dX10_reached_34 : decode cX10_reached 34 = .ok (.iconst 1, 1) := by decide +kernel
theorem dX10_reached_35 : decode cX10_reached 35 = .ok (.iconst 1, 1) := by decide +kernel
theorem dX10_reached_36 : decode cX10_reached 36 = .ok (.invokevirtual 220, 3) := by decide +kernel
theorem dX10_reached_39 : decode cX10_reached 39 = .ok (.invokevirtual 322, 3) := by decide +kernel
theorem dX10_reached_42 : decode cX10_reached 42 = .ok (.aload_n 0, 1) := by decide +kernel
theorem dX10_reached_43 : decode cX10_reached 43 = .ok (.iload_n 1, 1) := by decide +kernel
theorem dX10_reached_44 : decode cX10_reached 44 = .ok (.iconst 0, 1) := by decide +kernel
theorem dX10_reached_45 : decode cX10_reached 45 = .ok (.iconst 0, 1) := by decide +kernel
theorem dX10_reached_46 : decode cX10_reached 46 = .ok (.invokevirtual 220, 3) := by decide +kernel
theorem dX10_reached_49 : decode cX10_reached 49 = .ok (.ireturn, 1) := by decide +kernel
theorem dX10_from_0 : decode cX10_from 0 = .ok (.aload_n 0, 1) := by decide +kernel
theorem dX10_from_1 : decode cX10_from 1 = .ok (.iconst 0, 1) := by decide +kernel
theorem dX10_from_2 : decode cX10_from 2 = .ok (.putfield 87, 3) := by decide +kernel
theorem dX10_from_5 : decode cX10_from 5 = .ok (.aload_n 0, 1) := by decide +kernel
theorem dX10_from_6 : decode cX10_from 6 = .ok (.iload_n 1, 1) := by decide +kernel
theorem dX10_from_7 : decode cX10_from 7 = .ok (.invokevirtual 237, 3) := by decide +kernel
theorem dX10_from_10 : decode cX10_from 10 = .ok (.ifCond .eq 12, 3) := by decide +kernel
theorem dX10_from_13 : decode cX10_from 13 = .ok (.iload_n 2, 1) := by decide +kernel
theorem dX10_from_14 : decode cX10_from 14 = .ok (.iconst 0, 1) := by decide +kernel
theorem dX10_from_15 : decode cX10_from 15 = .ok (.iconst 1, 1) := by decide +kernel
theorem dX10_from_16 : decode cX10_from 16 = .ok (.invokestatic 97, 3) := by decide +kernel
theorem dX10_from_19 : decode cX10_from 19 = .ok (.ifCond .ne 5, 3) := by decide +kernel
theorem dX10_from_22 : decode cX10_from 22 = .ok (.iconst (-1), 1) := by decide +kernel
theorem dX10_from_23 : decode cX10_from 23 = .ok (.ireturn, 1) := by decide +kernel
theorem dX10_from_24 : decode cX10_from 24 = .ok (.iconst 0, 1) := by decide +kernel
theorem dX10_from_25 : decode cX10_from 25 = .ok (.istore_n 3, 1) := by decide +kernel
theorem dX10_from_26 : decode cX10_from 26 = .ok (.iconst 0, 1) := by decide +kernel
theorem dX10_from_27 : decode cX10_from 27 = .ok (.istore 4, 2) := by decide +kernel
theorem dX10_from_29 : decode cX10_from 29 = .ok (.iload 4, 2) := by decide +kernel
theorem dX10_from_31 : decode cX10_from 31 = .ok (.aload_n 0, 1) := by decide +kernel
theorem dX10_from_32 : decode cX10_from 32 = .ok (.getfield 101, 3) := by decide +kernel
theorem dX10_from_35 : decode cX10_from 35 = .ok (.if_icmp .ge 42, 3) := by decide +kernel
theorem dX10_from_38 : decode cX10_from 38 = .ok (.iload_n 3, 1) := by decide +kernel
theorem dX10_from_39 : decode cX10_from 39 = .ok (.aload_n 0, 1) := by decide +kernel
theorem dX10_from_40 : decode cX10_from 40 = .ok (.iload_n 1, 1) := by decide +kernel
theorem dX10_from_41 : decode cX10_from 41 = .ok (.iload 4, 2) := by decide +kernel
theorem dX10_from_43 : decode cX10_from 43 = .ok (.aload_n 0, 1) := by decide +kernel
theorem dX10_from_44 : decode cX10_from 44 = .ok (.aload_n 0, 1) := by decide +kernel
theorem dX10_from_45 : decode cX10_from 45 = .ok (.getfield 9, 3) := by decide +kernel
theorem dX10_from_48 : decode cX10_from 48 = .ok (.bipush 18, 2) := by decide +kernel
theorem dX10_from_50 : decode cX10_from 50 = .ok (.iaload, 1) := by decide +kernel
theorem dX10_from_51 : decode cX10_from 51 = .ok (.iload_n 2, 1) := by decide +kernel
theorem dX10_from_52 : decode cX10_from 52 = .ok (.invokevirtual 214, 3) := by decide +kernel
theorem dX10_from_55 : decode cX10_from 55 = .ok (.invokevirtual 217, 3) := by decide +kernel
theorem dX10_from_58 : decode cX10_from 58 = .ok (.ifCond .eq 10, 3) := by decide +kernel
theorem dX10_from_61 : decode cX10_from 61 = .ok (.iconst 1, 1) := by decide +kernel
theorem dX10_from_62 : decode cX10_from 62 = .ok (.iload 4, 2) := by decide +kernel
theorem dX10_from_64 : decode cX10_from 64 = .ok (.ishl, 1) := by decide +kernel
theorem dX10_from_65 : decode cX10_from 65 = .ok (.goto 4, 3) := by decide +kernel
theorem dX10_from_68 : decode cX10_from 68 = .ok (.iconst 0, 1) := by decide +kernel
theorem dX10_from_69 : decode cX10_from 69 = .ok (.ior, 1) := by decide +kernel
theorem dX10_from_70 : decode cX10_from 70 = .ok (.istore_n 3, 1) := by decide +kernel
theorem dX10_from_71 : decode cX10_from 71 = .ok (.iinc 4 1, 3) := by decide +kernel
theorem dX10_from_74 : decode cX10_from 74 = .ok (.goto (-45), 3) := by decide +kernel
theorem dX10_from_77 : decode cX10_from 77 = .ok (.iload_n 3, 1) := by decide +kernel
theorem dX10_from_78 : decode cX10_from 78 = .ok (.ireturn, 1) := by decide +kernel
theorem dX10_worthOf_0 : decode cX10_worthOf 0 = .ok (.iload_n 2, 1) := by decide +kernel
theorem dX10_worthOf_1 : decode cX10_worthOf 1 = .ok (.iload_n 1, 1) := by decide +kernel
theorem dX10_worthOf_2 : decode cX10_worthOf 2 = .ok (.invokestatic 227, 3) := by decide +kernel
theorem dX10_worthOf_5 : decode cX10_worthOf 5 = .ok (.ifCond .eq 14, 3) := by decide +kernel
theorem dX10_worthOf_8 : decode cX10_worthOf 8 = .ok (.aload_n 0, 1) := by decide +kernel
theorem dX10_worthOf_9 : decode cX10_worthOf 9 = .ok (.getfield 19, 3) := by decide +kernel
theorem dX10_worthOf_12 : decode cX10_worthOf 12 = .ok (.iload_n 1, 1) := by decide +kernel
theorem dX10_worthOf_13 : decode cX10_worthOf 13 = .ok (.iaload, 1) := by decide +kernel
theorem dX10_worthOf_14 : decode cX10_worthOf 14 = .ok (.iconst 2, 1) := by decide +kernel
theorem dX10_worthOf_15 : decode cX10_worthOf 15 = .ok (.idiv, 1) := by decide +kernel
theorem dX10_worthOf_16 : decode cX10_worthOf 16 = .ok (.goto 9, 3) := by decide +kernel
theorem dX10_worthOf_19 : decode cX10_worthOf 19 = .ok (.aload_n 0, 1) := by decide +kernel
theorem dX10_worthOf_20 : decode cX10_worthOf 20 = .ok (.getfield 19, 3) := by decide +kernel
theorem dX10_worthOf_23 : decode cX10_worthOf 23 = .ok (.iload_n 1, 1) := by decide +kernel
theorem dX10_worthOf_24 : decode cX10_worthOf 24 = .ok (.iaload, 1) := by decide +kernel
theorem dX10_worthOf_25 : decode cX10_worthOf 25 = .ok (.ireturn, 1) := by decide +kernel
theorem dX10_worthOfAll_0 : decode cX10_worthOfAll 0 = .ok (.iconst 0, 1) := by decide +kernel
theorem dX10_worthOfAll_1 : decode cX10_worthOfAll 1 = .ok (.istore_n 3, 1) := by decide +kernel
theorem dX10_worthOfAll_2 : decode cX10_worthOfAll 2 = .ok (.iconst 0, 1) := by decide +kernel
theorem dX10_worthOfAll_3 : decode cX10_worthOfAll 3 = .ok (.istore 4, 2) := by decide +kernel
theorem dX10_worthOfAll_5 : decode cX10_worthOfAll 5 = .ok (.iload 4, 2) := by decide +kernel
theorem dX10_worthOfAll_7 : decode cX10_worthOfAll 7 = .ok (.aload_n 0, 1) := by decide +kernel
theorem dX10_worthOfAll_8 : decode cX10_worthOfAll 8 = .ok (.getfield 94, 3) := by decide +kernel
theorem dX10_worthOfAll_11 : decode cX10_worthOfAll 11 = .ok (.if_icmp .ge 32, 3) := by decide +kernel
theorem dX10_worthOfAll_14 : decode cX10_worthOfAll 14 = .ok (.iload_n 3, 1) := by decide +kernel
theorem dX10_worthOfAll_15 : decode cX10_worthOfAll 15 = .ok (.iload_n 1, 1) := by decide +kernel
theorem dX10_worthOfAll_16 : decode cX10_worthOfAll 16 = .ok (.iload 4, 2) := by decide +kernel
theorem dX10_worthOfAll_18 : decode cX10_worthOfAll 18 = .ok (.invokestatic 227, 3) := by decide +kernel
theorem dX10_worthOfAll_21 : decode cX10_worthOfAll 21 = .ok (.ifCond .eq 13, 3) := by decide +kernel
theorem dX10_worthOfAll_24 : decode cX10_worthOfAll 24 = .ok (.aload_n 0, 1) := by decide +kernel
theorem dX10_worthOfAll_25 : decode cX10_worthOfAll 25 = .ok (.iload 4, 2) := by decide +kernel
theorem dX10_worthOfAll_27 : decode cX10_worthOfAll 27 = .ok (.iload_n 2, 1) := by decide +kernel
theorem dX10_worthOfAll_28 : decode cX10_worthOfAll 28 = .ok (.invokevirtual 234, 3) := by decide +kernel
theorem dX10_worthOfAll_31 : decode cX10_worthOfAll 31 = .ok (.goto 4, 3) := by decide +kernel
theorem dX10_worthOfAll_34 : decode cX10_worthOfAll 34 = .ok (.iconst 0, 1) := by decide +kernel
theorem dX10_worthOfAll_35 : decode cX10_worthOfAll 35 = .ok (.iadd, 1) := by decide +kernel
theorem dX10_worthOfAll_36 : decode cX10_worthOfAll 36 = .ok (.istore_n 3, 1) := by decide +kernel
theorem dX10_worthOfAll_37 : decode cX10_worthOfAll 37 = .ok (.iinc 4 1, 3) := by decide +kernel
theorem dX10_worthOfAll_40 : decode cX10_worthOfAll 40 = .ok (.goto (-35), 3) := by decide +kernel
theorem dX10_worthOfAll_43 : decode cX10_worthOfAll 43 = .ok (.iload_n 3, 1) := by decide +kernel
theorem dX10_worthOfAll_44 : decode cX10_worthOfAll 44 = .ok (.ireturn, 1) := by decide +kernel
theorem dX10_never_0 : decode cX10_never 0 = .ok (.aload_n 0, 1) := by decide +kernel
theorem dX10_never_1 : decode cX10_never 1 = .ok (.iconst 0, 1) := by decide +kernel
theorem dX10_never_2 : decode cX10_never 2 = .ok (.putfield 87, 3) := by decide +kernel
theorem dX10_never_5 : decode cX10_never 5 = .ok (.aload_n 0, 1) := by decide +kernel
theorem dX10_never_6 : decode cX10_never 6 = .ok (.aload_n 0, 1) := by decide +kernel
theorem dX10_never_7 : decode cX10_never 7 = .ok (.getfield 9, 3) := by decide +kernel
theorem dX10_never_10 : decode cX10_never 10 = .ok (.iconst 0, 1) := by decide +kernel
theorem dX10_never_11 : decode cX10_never 11 = .ok (.invokevirtual 244, 3) := by decide +kernel
theorem dX10_never_14 : decode cX10_never 14 = .ok (.istore_n 1, 1) := by decide +kernel
theorem dX10_never_15 : decode cX10_never 15 = .ok (.iconst 0, 1) := by decide +kernel
theorem dX10_never_16 : decode cX10_never 16 = .ok (.istore_n 2, 1) := by decide +kernel
theorem dX10_never_17 : decode cX10_never 17 = .ok (.iload_n 2, 1) := by decide +kernel
theorem dX10_never_18 : decode cX10_never 18 = .ok (.aload_n 0, 1) := by decide +kernel
theorem dX10_never_19 : decode cX10_never 19 = .ok (.getfield 101, 3) := by decide +kernel
theorem dX10_never_22 : decode cX10_never 22 = .ok (.if_icmp .ge 21, 3) := by decide +kernel
theorem dX10_never_25 : decode cX10_never 25 = .ok (.iload_n 1, 1) := by decide +kernel
theorem dX10_never_26 : decode cX10_never 26 = .ok (.aload_n 0, 1) := by decide +kernel
theorem dX10_never_27 : decode cX10_never 27 = .ok (.iload_n 2, 1) := by decide +kernel
theorem dX10_never_28 : decode cX10_never 28 = .ok (.iconst 1, 1) := by decide +kernel
theorem dX10_never_29 : decode cX10_never 29 = .ok (.iconst 1, 1) := by decide +kernel
theorem dX10_never_30 : decode cX10_never 30 = .ok (.invokevirtual 220, 3) := by decide +kernel
theorem dX10_never_33 : decode cX10_never 33 = .ok (.iconst (-1), 1) := by decide +kernel
theorem dX10_never_34 : decode cX10_never 34 = .ok (.ixor, 1) := by decide +kernel
theorem dX10_never_35 : decode cX10_never 35 = .ok (.iand, 1) := by decide +kernel
theorem dX10_never_36 : decode cX10_never 36 = .ok (.istore_n 1, 1) := by decide +kernel
theorem dX10_never_37 : decode cX10_never 37 = .ok (.iinc 2 1, 3) := by decide +kernel
theorem dX10_never_40 : decode cX10_never 40 = .ok (.goto (-23), 3) := by decide +kernel
theorem dX10_never_43 : decode cX10_never 43 = .ok (.aload_n 0, 1) := by decide +kernel
theorem dX10_never_44 : decode cX10_never 44 = .ok (.iconst 0, 1) := by decide +kernel
theorem dX10_never_45 : decode cX10_never 45 = .ok (.putfield 91, 3) := by decide +kernel
theorem dX10_never_48 : decode cX10_never 48 = .ok (.aload_n 0, 1) := by decide +kernel
theorem dX10_never_49 : decode cX10_never 49 = .ok (.aload_n 0, 1) := by decide +kernel
theorem dX10_never_50 : decode cX10_never 50 = .ok (.iload_n 1, 1) := by decide +kernel
theorem dX10_never_51 : decode cX10_never 51 = .ok (.aload_n 0, 1) := by decide +kernel
theorem dX10_never_52 : decode cX10_never 52 = .ok (.getfield 9, 3) := by decide +kernel
theorem dX10_never_55 : decode cX10_never 55 = .ok (.bipush 16, 2) := by decide +kernel
theorem dX10_never_57 : decode cX10_never 57 = .ok (.iaload, 1) := by decide +kernel
theorem dX10_never_58 : decode cX10_never 58 = .ok (.invokevirtual 325, 3) := by decide +kernel
theorem dX10_never_61 : decode cX10_never 61 = .ok (.invokevirtual 322, 3) := by decide +kernel
theorem dX10_never_64 : decode cX10_never 64 = .ok (.iload_n 1, 1) := by decide +kernel
theorem dX10_never_65 : decode cX10_never 65 = .ok (.ireturn, 1) := by decide +kernel
theorem dX10_seconds_0 : decode cX10_seconds 0 = .ok (.aload_n 0, 1) := by decide +kernel
theorem dX10_seconds_1 : decode cX10_seconds 1 = .ok (.iconst 0, 1) := by decide +kernel
theorem dX10_seconds_2 : decode cX10_seconds 2 = .ok (.putfield 87, 3) := by decide +kernel
theorem dX10_seconds_5 : decode cX10_seconds 5 = .ok (.aload_n 0, 1) := by decide +kernel
theorem dX10_seconds_6 : decode cX10_seconds 6 = .ok (.iload_n 1, 1) := by decide +kernel
theorem dX10_seconds_7 : decode cX10_seconds 7 = .ok (.invokevirtual 237, 3) := by decide +kernel
theorem dX10_seconds_10 : decode cX10_seconds 10 = .ok (.ifCond .eq 20, 3) := by decide +kernel
theorem dX10_seconds_13 : decode cX10_seconds 13 = .ok (.aload_n 0, 1) := by decide +kernel
theorem dX10_seconds_14 : decode cX10_seconds 14 = .ok (.iload_n 2, 1) := by decide +kernel
theorem dX10_seconds_15 : decode cX10_seconds 15 = .ok (.invokevirtual 251, 3) := by decide +kernel
theorem dX10_seconds_18 : decode cX10_seconds 18 = .ok (.ifCond .eq 12, 3) := by decide +kernel
theorem dX10_seconds_21 : decode cX10_seconds 21 = .ok (.iload_n 3, 1) := by decide +kernel
theorem dX10_seconds_22 : decode cX10_seconds 22 = .ok (.iconst 0, 1) := by decide +kernel
theorem dX10_seconds_23 : decode cX10_seconds 23 = .ok (.iconst 1, 1) := by decide +kernel
theorem dX10_seconds_24 : decode cX10_seconds 24 = .ok (.invokestatic 97, 3) := by decide +kernel
theorem dX10_seconds_27 : decode cX10_seconds 27 = .ok (.ifCond .ne 5, 3) := by decide +kernel
theorem dX10_seconds_30 : decode cX10_seconds 30 = .ok (.iconst (-1), 1) := by decide +kernel
theorem dX10_seconds_31 : decode cX10_seconds 31 = .ok (.ireturn, 1) := by decide +kernel
theorem dX10_seconds_32 : decode cX10_seconds 32 = .ok (.aload_n 0, 1) := by decide +kernel
theorem dX10_seconds_33 : decode cX10_seconds 33 = .ok (.iload_n 1, 1) := by decide +kernel
theorem dX10_seconds_34 : decode cX10_seconds 34 = .ok (.iload_n 2, 1) := by decide +kernel
theorem dX10_seconds_35 : decode cX10_seconds 35 = .ok (.aload_n 0, 1) := by decide +kernel
theorem dX10_seconds_36 : decode cX10_seconds 36 = .ok (.aload_n 0, 1) := by decide +kernel
theorem dX10_seconds_37 : decode cX10_seconds 37 = .ok (.getfield 9, 3) := by decide +kernel
theorem dX10_seconds_40 : decode cX10_seconds 40 = .ok (.bipush 18, 2) := by decide +kernel
theorem dX10_seconds_42 : decode cX10_seconds 42 = .ok (.iaload, 1) := by decide +kernel
theorem dX10_seconds_43 : decode cX10_seconds 43 = .ok (.iload_n 3, 1) := by decide +kernel
theorem dX10_seconds_44 : decode cX10_seconds 44 = .ok (.invokevirtual 214, 3) := by decide +kernel
theorem dX10_seconds_47 : decode cX10_seconds 47 = .ok (.invokevirtual 217, 3) := by decide +kernel
theorem dX10_seconds_50 : decode cX10_seconds 50 = .ok (.ifCond .eq 14, 3) := by decide +kernel
theorem dX10_seconds_53 : decode cX10_seconds 53 = .ok (.aload_n 0, 1) := by decide +kernel
theorem dX10_seconds_54 : decode cX10_seconds 54 = .ok (.iload_n 1, 1) := by decide +kernel
theorem dX10_seconds_55 : decode cX10_seconds 55 = .ok (.iload_n 2, 1) := by decide +kernel
theorem dX10_seconds_56 : decode cX10_seconds 56 = .ok (.iload_n 3, 1) := by decide +kernel
theorem dX10_seconds_57 : decode cX10_seconds 57 = .ok (.iconst 0, 1) := by decide +kernel
theorem dX10_seconds_58 : decode cX10_seconds 58 = .ok (.invokevirtual 285, 3) := by decide +kernel
theorem dX10_seconds_61 : decode cX10_seconds 61 = .ok (.goto 5, 3) := by decide +kernel
theorem dX10_seconds_64 : decode cX10_seconds 64 = .ok (.bipush (-2), 2) := by decide +kernel
theorem dX10_seconds_66 : decode cX10_seconds 66 = .ok (.ireturn, 1) := by decide +kernel
theorem dX10_allStandings_0 : decode cX10_allStandings 0 = .ok (.iconst 1, 1) := by decide +kernel
theorem dX10_allStandings_1 : decode cX10_allStandings 1 = .ok (.aload_n 0, 1) := by decide +kernel
theorem dX10_allStandings_2 : decode cX10_allStandings 2 = .ok (.getfield 101, 3) := by decide +kernel
theorem dX10_allStandings_5 : decode cX10_allStandings 5 = .ok (.ishl, 1) := by decide +kernel
theorem dX10_allStandings_6 : decode cX10_allStandings 6 = .ok (.iconst 1, 1) := by decide +kernel
theorem dX10_allStandings_7 : decode cX10_allStandings 7 = .ok (.isub, 1) := by decide +kernel
theorem dX10_allStandings_8 : decode cX10_allStandings 8 = .ok (.ireturn, 1) := by decide +kernel
theorem dX10_handOf_0 : decode cX10_handOf 0 = .ok (.iconst 0, 1) := by decide +kernel
theorem dX10_handOf_1 : decode cX10_handOf 1 = .ok (.istore_n 2, 1) := by decide +kernel
