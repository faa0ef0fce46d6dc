theorem dX0_sleepOver_18 : decode cX0_sleepOver 18 = .ok (.dup, 1) := by decide +kernel
theorem dX0_sleepOver_19 : decode cX0_sleepOver 19 = .ok (.getfield 68, 3) := by decide +kernel
theorem dX0_sleepOver_22 : decode cX0_sleepOver 22 = .ok (.iconst 1, 1) := by decide +kernel
theorem dX0_sleepOver_23 : decode cX0_sleepOver 23 = .ok (.iadd, 1) := by decide +kernel
theorem dX0_sleepOver_24 : decode cX0_sleepOver 24 = .ok (.putfield 68, 3) := by decide +kernel
theorem dX0_sleepOver_27 : decode cX0_sleepOver 27 = .ok (.aload_n 0, 1) := by decide +kernel
theorem dX0_sleepOver_28 : decode cX0_sleepOver 28 = .ok (.getfield 21, 3) := by decide +kernel
theorem dX0_sleepOver_31 : decode cX0_sleepOver 31 = .ok (.iconst (-1), 1) := by decide +kernel
theorem dX0_sleepOver_32 : decode cX0_sleepOver 32 = .ok (.putfield 53, 3) := by decide +kernel
theorem dX0_sleepOver_35 : decode cX0_sleepOver 35 = .ok (.aload_n 0, 1) := by decide +kernel
theorem dX0_sleepOver_36 : decode cX0_sleepOver 36 = .ok (.getfield 21, 3) := by decide +kernel
theorem dX0_sleepOver_39 : decode cX0_sleepOver 39 = .ok (.invokevirtual 114, 3) := by decide +kernel
theorem dX0_sleepOver_42 : decode cX0_sleepOver 42 = .ok (.aload_n 0, 1) := by decide +kernel
theorem dX0_sleepOver_43 : decode cX0_sleepOver 43 = .ok (.getfield 21, 3) := by decide +kernel
theorem dX0_sleepOver_46 : decode cX0_sleepOver 46 = .ok (.iconst 0, 1) := by decide +kernel
theorem dX0_sleepOver_47 : decode cX0_sleepOver 47 = .ok (.putfield 155, 3) := by decide +kernel
theorem dX0_sleepOver_50 : decode cX0_sleepOver 50 = .ok (.aload_n 0, 1) := by decide +kernel
theorem dX0_sleepOver_51 : decode cX0_sleepOver 51 = .ok (.getfield 21, 3) := by decide +kernel
theorem dX0_sleepOver_54 : decode cX0_sleepOver 54 = .ok (.getfield 68, 3) := by decide +kernel
theorem dX0_sleepOver_57 : decode cX0_sleepOver 57 = .ok (.ireturn, 1) := by decide +kernel
theorem dX9_sleep_0 : decode cX9_sleep 0 = .ok (.aload_n 0, 1) := by decide +kernel
theorem dX9_sleep_1 : decode cX9_sleep 1 = .ok (.getfield 43, 3) := by decide +kernel
theorem dX9_sleep_4 : decode cX9_sleep 4 = .ok (.aload_n 0, 1) := by decide +kernel
theorem dX9_sleep_5 : decode cX9_sleep 5 = .ok (.getfield 39, 3) := by decide +kernel
theorem dX9_sleep_8 : decode cX9_sleep 8 = .ok (.invokevirtual 175, 3) := by decide +kernel
theorem dX9_sleep_11 : decode cX9_sleep 11 = .ok (.aload_n 0, 1) := by decide +kernel
theorem dX9_sleep_12 : decode cX9_sleep 12 = .ok (.aload_n 0, 1) := by decide +kernel
theorem dX9_sleep_13 : decode cX9_sleep 13 = .ok (.getfield 27, 3) := by decide +kernel
theorem dX9_sleep_16 : decode cX9_sleep 16 = .ok (.invokevirtual 197, 3) := by decide +kernel
theorem dX9_sleep_19 : decode cX9_sleep 19 = .ok (.invokevirtual 182, 3) := by decide +kernel
theorem dX9_sleep_22 : decode cX9_sleep 22 = .ok (.ireturn, 1) := by decide +kernel
theorem dX9_doAct_0 : decode cX9_doAct 0 = .ok (.iload_n 1, 1) := by decide +kernel
theorem dX9_doAct_1 : decode cX9_doAct 1 = .ok (.tableswitch 142 97 112 #[124, 142, 142, 108, 142, 142, 142, 98, 142, 142, 116, 142, 79, 142, 133, 88], 79) := by decide +kernel
theorem dX9_doAct_80 : decode cX9_doAct 80 = .ok (.aload_n 0, 1) := by decide +kernel
theorem dX9_doAct_81 : decode cX9_doAct 81 = .ok (.getfield 27, 3) := by decide +kernel
theorem dX9_doAct_84 : decode cX9_doAct 84 = .ok (.iload_n 2, 1) := by decide +kernel
theorem dX9_doAct_85 : decode cX9_doAct 85 = .ok (.invokevirtual 179, 3) := by decide +kernel
theorem dX9_doAct_88 : decode cX9_doAct 88 = .ok (.ireturn, 1) := by decide +kernel
theorem dX9_doAct_89 : decode cX9_doAct 89 = .ok (.aload_n 0, 1) := by decide +kernel
theorem dX9_doAct_90 : decode cX9_doAct 90 = .ok (.getfield 27, 3) := by decide +kernel
theorem dX9_doAct_93 : decode cX9_doAct 93 = .ok (.iload_n 2, 1) := by decide +kernel
theorem dX9_doAct_94 : decode cX9_doAct 94 = .ok (.iconst 0, 1) := by decide +kernel
theorem dX9_doAct_95 : decode cX9_doAct 95 = .ok (.invokevirtual 188, 3) := by decide +kernel
theorem dX9_doAct_98 : decode cX9_doAct 98 = .ok (.ireturn, 1) := by decide +kernel
theorem dX9_doAct_99 : decode cX9_doAct 99 = .ok (.aload_n 0, 1) := by decide +kernel
theorem dX9_doAct_100 : decode cX9_doAct 100 = .ok (.getfield 27, 3) := by decide +kernel
theorem dX9_doAct_103 : decode cX9_doAct 103 = .ok (.iload_n 2, 1) := by decide +kernel
theorem dX9_doAct_104 : decode cX9_doAct 104 = .ok (.iconst 1, 1) := by decide +kernel
theorem dX9_doAct_105 : decode cX9_doAct 105 = .ok (.invokevirtual 188, 3) := by decide +kernel
theorem dX9_doAct_108 : decode cX9_doAct 108 = .ok (.ireturn, 1) := by decide +kernel
theorem dX9_doAct_109 : decode cX9_doAct 109 = .ok (.aload_n 0, 1) := by decide +kernel
theorem dX9_doAct_110 : decode cX9_doAct 110 = .ok (.getfield 27, 3) := by decide +kernel
theorem dX9_doAct_113 : decode cX9_doAct 113 = .ok (.invokevirtual 191, 3) := by decide +kernel
theorem dX9_doAct_116 : decode cX9_doAct 116 = .ok (.ireturn, 1) := by decide +kernel
theorem dX9_doAct_117 : decode cX9_doAct 117 = .ok (.aload_n 0, 1) := by decide +kernel
theorem dX9_doAct_118 : decode cX9_doAct 118 = .ok (.getfield 27, 3) := by decide +kernel
theorem dX9_doAct_121 : decode cX9_doAct 121 = .ok (.invokevirtual 194, 3) := by decide +kernel
theorem dX9_doAct_124 : decode cX9_doAct 124 = .ok (.ireturn, 1) := by decide +kernel
theorem dX9_doAct_125 : decode cX9_doAct 125 = .ok (.aload_n 0, 1) := by decide +kernel
theorem dX9_doAct_126 : decode cX9_doAct 126 = .ok (.getfield 27, 3) := by decide +kernel
theorem dX9_doAct_129 : decode cX9_doAct 129 = .ok (.iconst 1, 1) := by decide +kernel
theorem dX9_doAct_130 : decode cX9_doAct 130 = .ok (.invokevirtual 185, 3) := by decide +kernel
theorem dX9_doAct_133 : decode cX9_doAct 133 = .ok (.ireturn, 1) := by decide +kernel
theorem dX9_doAct_134 : decode cX9_doAct 134 = .ok (.aload_n 0, 1) := by decide +kernel
theorem dX9_doAct_135 : decode cX9_doAct 135 = .ok (.getfield 27, 3) := by decide +kernel
theorem dX9_doAct_138 : decode cX9_doAct 138 = .ok (.iconst 0, 1) := by decide +kernel
theorem dX9_doAct_139 : decode cX9_doAct 139 = .ok (.invokevirtual 185, 3) := by decide +kernel
theorem dX9_doAct_142 : decode cX9_doAct 142 = .ok (.ireturn, 1) := by decide +kernel
theorem dX9_doAct_143 : decode cX9_doAct 143 = .ok (.aload_n 0, 1) := by decide +kernel
theorem dX9_doAct_144 : decode cX9_doAct 144 = .ok (.getfield 27, 3) := by decide +kernel
theorem dX9_doAct_147 : decode cX9_doAct 147 = .ok (.invokevirtual 197, 3) := by decide +kernel
theorem dX9_doAct_150 : decode cX9_doAct 150 = .ok (.ireturn, 1) := by decide +kernel
theorem dX6_clear_0 : decode cX6_clear 0 = .ok (.aload_n 0, 1) := by decide +kernel
theorem dX6_clear_1 : decode cX6_clear 1 = .ok (.iconst 0, 1) := by decide +kernel
theorem dX6_clear_2 : decode cX6_clear 2 = .ok (.putfield 15, 3) := by decide +kernel
theorem dX6_clear_5 : decode cX6_clear 5 = .ok (.return_, 1) := by decide +kernel
theorem dX6_add_0 : decode cX6_add 0 = .ok (.aload_n 0, 1) := by decide +kernel
theorem dX6_add_1 : decode cX6_add 1 = .ok (.getfield 15, 3) := by decide +kernel
theorem dX6_add_4 : decode cX6_add 4 = .ok (.aload_n 0, 1) := by decide +kernel
theorem dX6_add_5 : decode cX6_add 5 = .ok (.getfield 9, 3) := by decide +kernel
theorem dX6_add_8 : decode cX6_add 8 = .ok (.arraylength, 1) := by decide +kernel
theorem dX6_add_9 : decode cX6_add 9 = .ok (.if_icmp .ge 23, 3) := by decide +kernel
theorem dX6_add_12 : decode cX6_add 12 = .ok (.aload_n 0, 1) := by decide +kernel
theorem dX6_add_13 : decode cX6_add 13 = .ok (.getfield 9, 3) := by decide +kernel
theorem dX6_add_16 : decode cX6_add 16 = .ok (.aload_n 0, 1) := by decide +kernel
theorem dX6_add_17 : decode cX6_add 17 = .ok (.getfield 15, 3) := by decide +kernel
theorem dX6_add_20 : decode cX6_add 20 = .ok (.iload_n 1, 1) := by decide +kernel
theorem dX6_add_21 : decode cX6_add 21 = .ok (.iastore, 1) := by decide +kernel
theorem dX6_add_22 : decode cX6_add 22 = .ok (.aload_n 0, 1) := by decide +kernel
theorem dX6_add_23 : decode cX6_add 23 = .ok (.dup, 1) := by decide +kernel
theorem dX6_add_24 : decode cX6_add 24 = .ok (.getfield 15, 3) := by decide +kernel
theorem dX6_add_27 : decode cX6_add 27 = .ok (.iconst 1, 1) := by decide +kernel
theorem dX6_add_28 : decode cX6_add 28 = .ok (.iadd, 1) := by decide +kernel
theorem dX6_add_29 : decode cX6_add 29 = .ok (.putfield 15, 3) := by decide +kernel
theorem dX6_add_32 : decode cX6_add 32 = .ok (.return_, 1) := by decide +kernel
theorem dX9_tell_0 : decode cX9_tell 0 = .ok (.aload_n 0, 1) := by decide +kernel
theorem dX9_tell_1 : decode cX9_tell 1 = .ok (.getfield 50, 3) := by decide +kernel
theorem dX9_tell_4 : decode cX9_tell 4 = .ok (.invokevirtual 304, 3) := by decide +kernel
theorem dX9_tell_7 : decode cX9_tell 7 = .ok (.aload_n 0, 1) := by decide +kernel
theorem dX9_tell_8 : decode cX9_tell 8 = .ok (.getfield 50, 3) := by decide +kernel
theorem dX9_tell_11 : decode cX9_tell 11 = .ok (.iload_n 1, 1) := by decide +kernel
theorem dX9_tell_12 : decode cX9_tell 12 = .ok (.invokevirtual 318, 3) := by decide +kernel
theorem dX9_tell_15 : decode cX9_tell 15 = .ok (.return_, 1) := by decide +kernel
theorem dX9_tell__0 : decode cX9_tell_ 0 = .ok (.aload_n 0, 1) := by decide +kernel
theorem dX9_tell__1 : decode cX9_tell_ 1 = .ok (.iload_n 1, 1) := by decide +kernel
theorem dX9_tell__2 : decode cX9_tell_ 2 = .ok (.invokevirtual 260, 3) := by decide +kernel
theorem dX9_tell__5 : decode cX9_tell_ 5 = .ok (.aload_n 0, 1) := by decide +kernel
theorem dX9_tell__6 : decode cX9_tell_ 6 = .ok (.getfield 50, 3) := by decide +kernel
theorem dX9_tell__9 : decode cX9_tell_ 9 = .ok (.iload_n 2, 1) := by decide +kernel
theorem dX9_tell__10 : decode cX9_tell_ 10 = .ok (.invokevirtual 318, 3) := by decide +kernel
theorem dX9_tell__13 : decode cX9_tell_ 13 = .ok (.return_, 1) := by decide +kernel
theorem dX9_doActs_0 : decode cX9_doActs 0 = .ok (.aload_n 0, 1) := by decide +kernel
theorem dX9_doActs_1 : decode cX9_doActs 1 = .ok (.getfield 43, 3) := by decide +kernel
theorem dX9_doActs_4 : decode cX9_doActs 4 = .ok (.aload_n 0, 1) := by decide +kernel
theorem dX9_doActs_5 : decode cX9_doActs 5 = .ok (.getfield 39, 3) := by decide +kernel
theorem dX9_doActs_8 : decode cX9_doActs 8 = .ok (.invokevirtual 175, 3) := by decide +kernel
theorem dX9_doActs_11 : decode cX9_doActs 11 = .ok (.iconst 0, 1) := by decide +kernel
theorem dX9_doActs_12 : decode cX9_doActs 12 = .ok (.istore_n 2, 1) := by decide +kernel
theorem dX9_doActs_13 : decode cX9_doActs 13 = .ok (.iconst 0, 1) := by decide +kernel
theorem dX9_doActs_14 : decode cX9_doActs 14 = .ok (.istore_n 3, 1) := by decide +kernel
theorem dX9_doActs_15 : decode cX9_doActs 15 = .ok (.iconst 0, 1) := by decide +kernel
theorem dX9_doActs_16 : decode cX9_doActs 16 = .ok (.istore 4, 2) := by decide +kernel
theorem dX9_doActs_18 : decode cX9_doActs 18 = .ok (.iconst 0, 1) := by decide +kernel
theorem dX9_doActs_19 : decode cX9_doActs 19 = .ok (.istore 5, 2) := by decide +kernel
theorem dX9_doActs_21 : decode cX9_doActs 21 = .ok (.iload 5, 2) := by decide +kernel
theorem dX9_doActs_23 : decode cX9_doActs 23 = .ok (.iload_n 1, 1) := by decide +kernel
theorem dX9_doActs_24 : decode cX9_doActs 24 = .ok (.if_icmp .ge 83, 3) := by decide +kernel
theorem dX9_doActs_27 : decode cX9_doActs 27 = .ok (.iload 5, 2) := by decide +kernel
theorem dX9_doActs_29 : decode cX9_doActs 29 = .ok (.bipush 30, 2) := by decide +kernel
theorem dX9_doActs_31 : decode cX9_doActs 31 = .ok (.if_icmp .ge 76, 3) := by decide +kernel
theorem dX9_doActs_34 : decode cX9_doActs 34 = .ok (.iload 4, 2) := by decide +kernel
theorem dX9_doActs_36 : decode cX9_doActs 36 = .ok (.ifCond .ne 71, 3) := by decide +kernel
theorem dX9_doActs_39 : decode cX9_doActs 39 = .ok (.aload_n 0, 1) := by decide +kernel
theorem dX9_doActs_40 : decode cX9_doActs 40 = .ok (.getfield 61, 3) := by decide +kernel
theorem dX9_doActs_43 : decode cX9_doActs 43 = .ok (.iload 5, 2) := by decide +kernel
theorem dX9_doActs_45 : decode cX9_doActs 45 = .ok (.iaload, 1) := by decide +kernel
theorem dX9_doActs_46 : decode cX9_doActs 46 = .ok (.bipush 100, 2) := by decide +kernel
theorem dX9_doActs_48 : decode cX9_doActs 48 = .ok (.idiv, 1) := by decide +kernel
theorem dX9_doActs_49 : decode cX9_doActs 49 = .ok (.istore 6, 2) := by decide +kernel
theorem dX9_doActs_51 : decode cX9_doActs 51 = .ok (.aload_n 0, 1) := by decide +kernel
theorem dX9_doActs_52 : decode cX9_doActs 52 = .ok (.iload 6, 2) := by decide +kernel
theorem dX9_doActs_54 : decode cX9_doActs 54 = .ok (.aload_n 0, 1) := by decide +kernel
theorem dX9_doActs_55 : decode cX9_doActs 55 = .ok (.getfield 61, 3) := by decide +kernel
theorem dX9_doActs_58 : decode cX9_doActs 58 = .ok (.iload 5, 2) := by decide +kernel
theorem dX9_doActs_60 : decode cX9_doActs 60 = .ok (.iaload, 1) := by decide +kernel
theorem dX9_doActs_61 : decode cX9_doActs 61 = .ok (.bipush 100, 2) := by decide +kernel
theorem dX9_doActs_63 : decode cX9_doActs 63 = .ok (.irem, 1) := by decide +kernel
theorem dX9_doActs_64 : decode cX9_doActs 64 = .ok (.invokevirtual 231, 3) := by decide +kernel
theorem dX9_doActs_67 : decode cX9_doActs 67 = .ok (.ifCond .ge 9, 3) := by decide +kernel
theorem dX9_doActs_70 : decode cX9_doActs 70 = .ok (.iconst 1, 1) := by decide +kernel
theorem dX9_doActs_71 : decode cX9_doActs 71 = .ok (.istore 4, 2) := by decide +kernel
theorem dX9_doActs_73 : decode cX9_doActs 73 = .ok (.goto 28, 3) := by decide +kernel
theorem dX9_doActs_76 : decode cX9_doActs 76 = .ok (.iinc 2 1, 3) := by decide +kernel
theorem dX9_doActs_79 : decode cX9_doActs 79 = .ok (.iload_n 3, 1) := by decide +kernel
theorem dX9_doActs_80 : decode cX9_doActs 80 = .ok (.iload 6, 2) := by decide +kernel
theorem dX9_doActs_82 : decode cX9_doActs 82 = .ok (.bipush 112, 2) := by decide +kernel
theorem dX9_doActs_84 : decode cX9_doActs 84 = .ok (.if_icmp .eq 10, 3) := by decide +kernel
theorem dX9_doActs_87 : decode cX9_doActs 87 = .ok (.iload 6, 2) := by decide +kernel
theorem dX9_doActs_89 : decode cX9_doActs 89 = .ok (.bipush 104, 2) := by decide +kernel
theorem dX9_doActs_91 : decode cX9_doActs 91 = .ok (.if_icmp .ne 7, 3) := by decide +kernel
theorem dX9_doActs_94 : decode cX9_doActs 94 = .ok (.iconst 1, 1) := by decide +kernel
theorem dX9_doActs_95 : decode cX9_doActs 95 = .ok (.goto 4, 3) := by decide +kernel
theorem dX9_doActs_98 : decode cX9_doActs 98 = .ok (.iconst 0, 1) := by decide +kernel
theorem dX9_doActs_99 : decode cX9_doActs 99 = .ok (.iadd, 1) := by decide +kernel
theorem dX9_doActs_100 : decode cX9_doActs 100 = .ok (.istore_n 3, 1) := by decide +kernel
theorem dX9_doActs_101 : decode cX9_doActs 101 = .ok (.iinc 5 1, 3) := by decide +kernel
theorem dX9_doActs_104 : decode cX9_doActs 104 = .ok (.goto (-83), 3) := by decide +kernel
theorem dX9_doActs_107 : decode cX9_doActs 107 = .ok (.iload_n 2, 1) := by decide +kernel
theorem dX9_doActs_108 : decode cX9_doActs 108 = .ok (.ifCond .le 10, 3) := by decide +kernel
theorem dX9_doActs_111 : decode cX9_doActs 111 = .ok (.aload_n 0, 1) := by decide +kernel
theorem dX9_doActs_112 : decode cX9_doActs 112 = .ok (.getfield 43, 3) := by decide +kernel
theorem dX9_doActs_115 : decode cX9_doActs 115 = .ok (.invokevirtual 212, 3) := by decide +kernel
theorem dX9_doActs_118 : decode cX9_doActs 118 = .ok (.aload_n 0, 1) := by decide +kernel
theorem dX9_doActs_119 : decode cX9_doActs 119 = .ok (.iload 4, 2) := by decide +kernel
theorem dX9_doActs_121 : decode cX9_doActs 121 = .ok (.iload_n 3, 1) := by decide +kernel
theorem dX9_doActs_122 : decode cX9_doActs 122 = .ok (.invokevirtual 234, 3) := by decide +kernel
theorem dX9_doActs_125 : decode cX9_doActs 125 = .ok (.iload_n 2, 1) := by decide +kernel
theorem dX9_doActs_126 : decode cX9_doActs 126 = .ok (.ireturn, 1) := by decide +kernel
theorem dX9_readAct_0 : decode cX9_readAct 0 = .ok (.aload_n 0, 1) := by decide +kernel
theorem dX9_readAct_1 : decode cX9_readAct 1 = .ok (.getfield 10, 3) := by decide +kernel
theorem dX9_readAct_4 : decode cX9_readAct 4 = .ok (.invokevirtual 222, 3) := by decide +kernel
theorem dX9_readAct_7 : decode cX9_readAct 7 = .ok (.istore_n 1, 1) := by decide +kernel
theorem dX9_readAct_8 : decode cX9_readAct 8 = .ok (.iconst 0, 1) := by decide +kernel
theorem dX9_readAct_9 : decode cX9_readAct 9 = .ok (.istore_n 2, 1) := by decide +kernel
theorem dX9_readAct_10 : decode cX9_readAct 10 = .ok (.iload_n 1, 1) := by decide +kernel
theorem dX9_readAct_11 : decode cX9_readAct 11 = .ok (.tableswitch 130 97 122 #[127, 130, 130, 127, 130, 130, 130, 122, 130, 130, 127, 130, 117, 130, 127, 122, 130, 130, 130, 130, 130, 130, 130, 130, 130, 127], 117) := by decide +kernel
theorem dX9_readAct_128 : decode cX9_readAct 128 = .ok (.iconst 1, 1) := by decide +kernel
theorem dX9_readAct_129 : decode cX9_readAct 129 = .ok (.istore_n 2, 1) := by decide +kernel
theorem dX9_readAct_130 : decode cX9_readAct 130 = .ok (.goto 13, 3) := by decide +kernel
theorem dX9_readAct_133 : decode cX9_readAct 133 = .ok (.iconst 2, 1) := by decide +kernel
theorem dX9_readAct_134 : decode cX9_readAct 134 = .ok (.istore_n 2, 1) := by decide +kernel
theorem dX9_readAct_135 : decode cX9_readAct 135 = .ok (.goto 8, 3) := by decide +kernel
theorem dX9_readAct_138 : decode cX9_readAct 138 = .ok (.goto 5, 3) := by decide +kernel
theorem dX9_readAct_141 : decode cX9_readAct 141 = .ok (.iconst (-1), 1) := by decide +kernel
theorem dX9_readAct_142 : decode cX9_readAct 142 = .ok (.ireturn, 1) := by decide +kernel
theorem dX9_readAct_143 : decode cX9_readAct 143 = .ok (.aload_n 0, 1) := by decide +kernel
theorem dX9_readAct_144 : decode cX9_readAct 144 = .ok (.getfield 10, 3) := by decide +kernel
theorem dX9_readAct_147 : decode cX9_readAct 147 = .ok (.invokevirtual 225, 3) := by decide +kernel
theorem dX9_readAct_150 : decode cX9_readAct 150 = .ok (.iload_n 2, 1) := by decide +kernel
theorem dX9_readAct_151 : decode cX9_readAct 151 = .ok (.ifCond .ne 8, 3) := by decide +kernel
theorem dX9_readAct_154 : decode cX9_readAct 154 = .ok (.iload_n 1, 1) := by decide +kernel
theorem dX9_readAct_155 : decode cX9_readAct 155 = .ok (.bipush 100, 2) := by decide +kernel
theorem dX9_readAct_157 : decode cX9_readAct 157 = .ok (.imul, 1) := by decide +kernel
theorem dX9_readAct_158 : decode cX9_readAct 158 = .ok (.ireturn, 1) := by decide +kernel
theorem dX9_readAct_159 : decode cX9_readAct 159 = .ok (.aload_n 0, 1) := by decide +kernel
theorem dX9_readAct_160 : decode cX9_readAct 160 = .ok (.getfield 10, 3) := by decide +kernel
theorem dX9_readAct_163 : decode cX9_readAct 163 = .ok (.iload_n 2, 1) := by decide +kernel
theorem dX9_readAct_164 : decode cX9_readAct 164 = .ok (.invokevirtual 228, 3) := by decide +kernel
theorem dX9_readAct_167 : decode cX9_readAct 167 = .ok (.istore_n 3, 1) := by decide +kernel
theorem dX9_readAct_168 : decode cX9_readAct 168 = .ok (.iload_n 3, 1) := by decide +kernel
theorem dX9_readAct_169 : decode cX9_readAct 169 = .ok (.iconst (-1), 1) := by decide +kernel
theorem dX9_readAct_170 : decode cX9_readAct 170 = .ok (.if_icmp .ne 7, 3) := by decide +kernel
theorem dX9_readAct_173 : decode cX9_readAct 173 = .ok (.iconst (-1), 1) := by decide +kernel
theorem dX9_readAct_174 : decode cX9_readAct 174 = .ok (.goto 9, 3) := by decide +kernel
theorem dX9_readAct_177 : decode cX9_readAct 177 = .ok (.iload_n 1, 1) := by decide +kernel
theorem dX9_readAct_178 : decode cX9_readAct 178 = .ok (.bipush 100, 2) := by decide +kernel
theorem dX9_readAct_180 : decode cX9_readAct 180 = .ok (.imul, 1) := by decide +kernel
theorem dX9_readAct_181 : decode cX9_readAct 181 = .ok (.iload_n 3, 1) := by decide +kernel
theorem dX9_readAct_182 : decode cX9_readAct 182 = .ok (.iadd, 1) := by decide +kernel
theorem dX9_readAct_183 : decode cX9_readAct 183 = .ok (.ireturn, 1) := by decide +kernel
theorem dX9_readActs_0 : decode cX9_readActs 0 = .ok (.iconst 0, 1) := by decide +kernel
theorem dX9_readActs_1 : decode cX9_readActs 1 = .ok (.istore_n 1, 1) := by decide +kernel
theorem dX9_readActs_2 : decode cX9_readActs 2 = .ok (.iload_n 1, 1) := by decide +kernel
theorem dX9_readActs_3 : decode cX9_readActs 3 = .ok (.bipush 30, 2) := by decide +kernel
theorem dX9_readActs_5 : decode cX9_readActs 5 = .ok (.if_icmp .ge 44, 3) := by decide +kernel
theorem dX9_readActs_8 : decode cX9_readActs 8 = .ok (.aload_n 0, 1) := by decide +kernel
theorem dX9_readActs_9 : decode cX9_readActs 9 = .ok (.invokevirtual 215, 3) := by decide +kernel
theorem dX9_readActs_12 : decode cX9_readActs 12 = .ok (.istore_n 2, 1) := by decide +kernel
theorem dX9_readActs_13 : decode cX9_readActs 13 = .ok (.iload_n 2, 1) := by decide +kernel
theorem dX9_readActs_14 : decode cX9_readActs 14 = .ok (.iconst (-1), 1) := by decide +kernel
theorem dX9_readActs_15 : decode cX9_readActs 15 = .ok (.if_icmp .ne 5, 3) := by decide +kernel
theorem dX9_readActs_18 : decode cX9_readActs 18 = .ok (.iconst (-1), 1) := by decide +kernel
theorem dX9_readActs_19 : decode cX9_readActs 19 = .ok (.ireturn, 1) := by decide +kernel
theorem dX9_readActs_20 : decode cX9_readActs 20 = .ok (.aload_n 0, 1) := by decide +kernel
theorem dX9_readActs_21 : decode cX9_readActs 21 = .ok (.getfield 61, 3) := by decide +kernel
theorem dX9_readActs_24 : decode cX9_readActs 24 = .ok (.iload_n 1, 1) := by decide +kernel
theorem dX9_readActs_25 : decode cX9_readActs 25 = .ok (.iload_n 2, 1) := by decide +kernel
theorem dX9_readActs_26 : decode cX9_readActs 26 = .ok (.iastore, 1) := by decide +kernel
theorem dX9_readActs_27 : decode cX9_readActs 27 = .ok (.aload_n 0, 1) := by decide +kernel
theorem dX9_readActs_28 : decode cX9_readActs 28 = .ok (.getfield 10, 3) := by decide +kernel
theorem dX9_readActs_31 : decode cX9_readActs 31 = .ok (.bipush 59, 2) := by decide +kernel
theorem dX9_readActs_33 : decode cX9_readActs 33 = .ok (.invokevirtual 218, 3) := by decide +kernel
theorem dX9_readActs_36 : decode cX9_readActs 36 = .ok (.ifCond .ne 7, 3) := by decide +kernel
theorem dX9_readActs_39 : decode cX9_readActs 39 = .ok (.iload_n 1, 1) := by decide +kernel
theorem dX9_readActs_40 : decode cX9_readActs 40 = .ok (.iconst 1, 1) := by decide +kernel
theorem dX9_readActs_41 : decode cX9_readActs 41 = .ok (.iadd, 1) := by decide +kernel
theorem dX9_readActs_42 : decode cX9_readActs 42 = .ok (.ireturn, 1) := by decide +kernel
theorem dX9_readActs_43 : decode cX9_readActs 43 = .ok (.iinc 1 1, 3) := by decide +kernel
theorem dX9_readActs_46 : decode cX9_readActs 46 = .ok (.goto (-44), 3) := by decide +kernel
theorem dX9_readActs_49 : decode cX9_readActs 49 = .ok (.iconst (-1), 1) := by decide +kernel
theorem dX9_readActs_50 : decode cX9_readActs 50 = .ok (.ireturn, 1) := by decide +kernel
theorem dX9_day_0 : decode cX9_day 0 = .ok (.aload_n 0, 1) := by decide +kernel
theorem dX9_day_1 : decode cX9_day 1 = .ok (.getfield 10, 3) := by decide +kernel
theorem dX9_day_4 : decode cX9_day 4 = .ok (.bipush 60, 2) := by decide +kernel
theorem dX9_day_6 : decode cX9_day 6 = .ok (.invokevirtual 73, 3) := by decide +kernel
theorem dX9_day_9 : decode cX9_day 9 = .ok (.aload_n 0, 1) := by decide +kernel
theorem dX9_day_10 : decode cX9_day 10 = .ok (.getfield 10, 3) := by decide +kernel
theorem dX9_day_13 : decode cX9_day 13 = .ok (.getfield 77, 3) := by decide +kernel
theorem dX9_day_16 : decode cX9_day 16 = .ok (.ifCond .ne 7, 3) := by decide +kernel
theorem dX9_day_19 : decode cX9_day 19 = .ok (.iconst 0, 1) := by decide +kernel
theorem dX9_day_20 : decode cX9_day 20 = .ok (.goto 7, 3) := by decide +kernel
theorem dX9_day_23 : decode cX9_day 23 = .ok (.aload_n 0, 1) := by decide +kernel
theorem dX9_day_24 : decode cX9_day 24 = .ok (.invokevirtual 200, 3) := by decide +kernel
theorem dX9_day_27 : decode cX9_day 27 = .ok (.istore_n 1, 1) := by decide +kernel
theorem dX9_day_28 : decode cX9_day 28 = .ok (.iload_n 1, 1) := by decide +kernel
theorem dX9_day_29 : decode cX9_day 29 = .ok (.iconst (-1), 1) := by decide +kernel
theorem dX9_day_30 : decode cX9_day 30 = .ok (.if_icmp .eq 17, 3) := by decide +kernel
theorem dX9_day_33 : decode cX9_day 33 = .ok (.aload_n 0, 1) := by decide +kernel
theorem dX9_day_34 : decode cX9_day 34 = .ok (.getfield 10, 3) := by decide +kernel
theorem dX9_day_37 : decode cX9_day 37 = .ok (.invokevirtual 87, 3) := by decide +kernel
theorem dX9_day_40 : decode cX9_day 40 = .ok (.ifCond .eq 7, 3) := by decide +kernel
theorem dX9_day_43 : decode cX9_day 43 = .ok (.iconst 1, 1) := by decide +kernel
theorem dX9_day_44 : decode cX9_day 44 = .ok (.goto 4, 3) := by decide +kernel
theorem dX9_day_47 : decode cX9_day 47 = .ok (.iconst 0, 1) := by decide +kernel
theorem dX9_day_48 : decode cX9_day 48 = .ok (.istore_n 2, 1) := by decide +kernel
theorem dX9_day_49 : decode cX9_day 49 = .ok (.iload_n 2, 1) := by decide +kernel
theorem dX9_day_50 : decode cX9_day 50 = .ok (.ifCond .eq 11, 3) := by decide +kernel
theorem dX9_day_53 : decode cX9_day 53 = .ok (.aload_n 0, 1) := by decide +kernel
theorem dX9_day_54 : decode cX9_day 54 = .ok (.iload_n 1, 1) := by decide +kernel
theorem dX9_day_55 : decode cX9_day 55 = .ok (.invokevirtual 203, 3) := by decide +kernel
theorem dX9_day_58 : decode cX9_day 58 = .ok (.goto 10, 3) := by decide +kernel
theorem dX9_day_61 : decode cX9_day 61 = .ok (.aload_n 0, 1) := by decide +kernel
theorem dX9_day_62 : decode cX9_day 62 = .ok (.getfield 10, 3) := by decide +kernel
theorem dX9_day_65 : decode cX9_day 65 = .ok (.invokevirtual 91, 3) := by decide +kernel
theorem dX9_day_68 : decode cX9_day 68 = .ok (.istore_n 3, 1) := by decide +kernel
theorem dX9_day_69 : decode cX9_day 69 = .ok (.aload_n 0, 1) := by decide +kernel
theorem dX9_day_70 : decode cX9_day 70 = .ok (.getfield 10, 3) := by decide +kernel
theorem dX9_day_73 : decode cX9_day 73 = .ok (.invokevirtual 101, 3) := by decide +kernel
theorem dX9_day_76 : decode cX9_day 76 = .ok (.iload_n 3, 1) := by decide +kernel
theorem dX9_day_77 : decode cX9_day 77 = .ok (.ireturn, 1) := by decide +kernel
theorem dX2_read_0 : decode cX2_read 0 = .ok (.iload_n 2, 1) := by decide +kernel
theorem dX2_read_1 : decode cX2_read 1 = .ok (.ifCond .lt 12, 3) := by decide +kernel
theorem dX2_read_4 : decode cX2_read 4 = .ok (.iload_n 2, 1) := by decide +kernel
theorem dX2_read_5 : decode cX2_read 5 = .ok (.aload_n 1, 1) := by decide +kernel
theorem dX2_read_6 : decode cX2_read 6 = .ok (.arraylength, 1) := by decide +kernel
theorem dX2_read_7 : decode cX2_read 7 = .ok (.bipush 8, 2) := by decide +kernel
theorem dX2_read_9 : decode cX2_read 9 = .ok (.isub, 1) := by decide +kernel
theorem dX2_read_10 : decode cX2_read 10 = .ok (.if_icmp .le 4, 3) := by decide +kernel
theorem dX2_read_13 : decode cX2_read 13 = .ok (.return_, 1) := by decide +kernel
theorem dX2_read_14 : decode cX2_read 14 = .ok (.aload_n 0, 1) := by decide +kernel
theorem dX2_read_15 : decode cX2_read 15 = .ok (.aload_n 1, 1) := by decide +kernel
theorem dX2_read_16 : decode cX2_read 16 = .ok (.iload_n 2, 1) := by decide +kernel
theorem dX2_read_17 : decode cX2_read 17 = .ok (.iaload, 1) := by decide +kernel
theorem dX2_read_18 : decode cX2_read 18 = .ok (.putfield 15, 3) := by decide +kernel
theorem dX2_read_21 : decode cX2_read 21 = .ok (.aload_n 0, 1) := by decide +kernel
theorem dX2_read_22 : decode cX2_read 22 = .ok (.aload_n 1, 1) := by decide +kernel
theorem dX2_read_23 : decode cX2_read 23 = .ok (.iload_n 2, 1) := by decide +kernel
theorem dX2_read_24 : decode cX2_read 24 = .ok (.iconst 1, 1) := by decide +kernel
theorem dX2_read_25 : decode cX2_read 25 = .ok (.iadd, 1) := by decide +kernel
theorem dX2_read_26 : decode cX2_read 26 = .ok (.iaload, 1) := by decide +kernel
theorem dX2_read_27 : decode cX2_read 27 = .ok (.putfield 18, 3) := by decide +kernel
theorem dX2_read_30 : decode cX2_read 30 = .ok (.aload_n 0, 1) := by decide +kernel
theorem dX2_read_31 : decode cX2_read 31 = .ok (.aload_n 1, 1) := by decide +kernel
theorem dX2_read_32 : decode cX2_read 32 = .ok (.iload_n 2, 1) := by decide +kernel
theorem dX2_read_33 : decode cX2_read 33 = .ok (.iconst 2, 1) := by decide +kernel
theorem dX2_read_34 : decode cX2_read 34 = .ok (.iadd, 1) := by decide +kernel
theorem dX2_read_35 : decode cX2_read 35 = .ok (.iaload, 1) := by decide +kernel
theorem dX2_read_36 : decode cX2_read 36 = .ok (.putfield 21, 3) := by decide +kernel
theorem dX2_read_39 : decode cX2_read 39 = .ok (.aload_n 0, 1) := by decide +kernel
theorem dX2_read_40 : decode cX2_read 40 = .ok (.aload_n 1, 1) := by decide +kernel
theorem dX2_read_41 : decode cX2_read 41 = .ok (.iload_n 2, 1) := by decide +kernel
theorem dX2_read_42 : decode cX2_read 42 = .ok (.iconst 3, 1) := by decide +kernel
theorem dX2_read_43 : decode cX2_read 43 = .ok (.iadd, 1) := by decide +kernel
theorem dX2_read_44 : decode cX2_read 44 = .ok (.iaload, 1) := by decide +kernel
theorem dX2_read_45 : decode cX2_read 45 = .ok (.putfield 33, 3) := by decide +kernel
theorem dX2_read_48 : decode cX2_read 48 = .ok (.aload_n 0, 1) := by decide +kernel
theorem dX2_read_49 : decode cX2_read 49 = .ok (.aload_n 1, 1) := by decide +kernel
theorem dX2_read_50 : decode cX2_read 50 = .ok (.iload_n 2, 1) := by decide +kernel
theorem dX2_read_51 : decode cX2_read 51 = .ok (.iconst 4, 1) := by decide +kernel
theorem dX2_read_52 : decode cX2_read 52 = .ok (.iadd, 1) := by decide +kernel
theorem dX2_read_53 : decode cX2_read 53 = .ok (.iaload, 1) := by decide +kernel
theorem dX2_read_54 : decode cX2_read 54 = .ok (.putfield 9, 3) := by decide +kernel
theorem dX2_read_57 : decode cX2_read 57 = .ok (.aload_n 0, 1) := by decide +kernel
theorem dX2_read_58 : decode cX2_read 58 = .ok (.aload_n 1, 1) := by decide +kernel
theorem dX2_read_59 : decode cX2_read 59 = .ok (.iload_n 2, 1) := by decide +kernel
theorem dX2_read_60 : decode cX2_read 60 = .ok (.iconst 5, 1) := by decide +kernel
theorem dX2_read_61 : decode cX2_read 61 = .ok (.iadd, 1) := by decide +kernel
theorem dX2_read_62 : decode cX2_read 62 = .ok (.iaload, 1) := by decide +kernel
theorem dX2_read_63 : decode cX2_read 63 = .ok (.putfield 36, 3) := by decide +kernel
theorem dX2_read_66 : decode cX2_read 66 = .ok (.aload_n 0, 1) := by decide +kernel
theorem dX2_read_67 : decode cX2_read 67 = .ok (.aload_n 1, 1) := by decide +kernel
theorem dX2_read_68 : decode cX2_read 68 = .ok (.iload_n 2, 1) := by decide +kernel
theorem dX2_read_69 : decode cX2_read 69 = .ok (.bipush 6, 2) := by decide +kernel
theorem dX2_read_71 : decode cX2_read 71 = .ok (.iadd, 1) := by decide +kernel
theorem dX2_read_72 : decode cX2_read 72 = .ok (.iaload, 1) := by decide +kernel
theorem dX2_read_73 : decode cX2_read 73 = .ok (.putfield 39, 3) := by decide +kernel
theorem dX2_read_76 : decode cX2_read 76 = .ok (.aload_n 0, 1) := by decide +kernel
theorem dX2_read_77 : decode cX2_read 77 = .ok (.aload_n 1, 1) := by decide +kernel
theorem dX2_read_78 : decode cX2_read 78 = .ok (.iload_n 2, 1) := by decide +kernel
theorem dX2_read_79 : decode cX2_read 79 = .ok (.bipush 7, 2) := by decide +kernel
theorem dX2_read_81 : decode cX2_read 81 = .ok (.iadd, 1) := by decide +kernel
theorem dX2_read_82 : decode cX2_read 82 = .ok (.iaload, 1) := by decide +kernel
theorem dX2_read_83 : decode cX2_read 83 = .ok (.putfield 24, 3) := by decide +kernel
theorem dX2_read_86 : decode cX2_read 86 = .ok (.return_, 1) := by decide +kernel
theorem dX4_goBack_0 : decode cX4_goBack 0 = .ok (.aload_n 0, 1) := by decide +kernel
theorem dX4_goBack_1 : decode cX4_goBack 1 = .ok (.aload_n 0, 1) := by decide +kernel
theorem dX4_goBack_2 : decode cX4_goBack 2 = .ok (.getfield 22, 3) := by decide +kernel
theorem dX4_goBack_5 : decode cX4_goBack 5 = .ok (.bipush 13, 2) := by decide +kernel
theorem dX4_goBack_7 : decode cX4_goBack 7 = .ok (.iadd, 1) := by decide +kernel
theorem dX4_goBack_8 : decode cX4_goBack 8 = .ok (.iconst 1, 1) := by decide +kernel
theorem dX4_goBack_9 : decode cX4_goBack 9 = .ok (.isub, 1) := by decide +kernel
theorem dX4_goBack_10 : decode cX4_goBack 10 = .ok (.bipush 13, 2) := by decide +kernel
theorem dX4_goBack_12 : decode cX4_goBack 12 = .ok (.irem, 1) := by decide +kernel
theorem dX4_goBack_13 : decode cX4_goBack 13 = .ok (.putfield 22, 3) := by decide +kernel
theorem dX4_goBack_16 : decode cX4_goBack 16 = .ok (.aload_n 0, 1) := by decide +kernel
theorem dX4_goBack_17 : decode cX4_goBack 17 = .ok (.dup, 1) := by decide +kernel
theorem dX4_goBack_18 : decode cX4_goBack 18 = .ok (.getfield 30, 3) := by decide +kernel
theorem dX4_goBack_21 : decode cX4_goBack 21 = .ok (.iconst 1, 1) := by decide +kernel
theorem dX4_goBack_22 : decode cX4_goBack 22 = .ok (.isub, 1) := by decide +kernel
theorem dX4_goBack_23 : decode cX4_goBack 23 = .ok (.putfield 30, 3) := by decide +kernel
theorem dX4_goBack_26 : decode cX4_goBack 26 = .ok (.aload_n 1, 1) := by decide +kernel
theorem dX4_goBack_27 : decode cX4_goBack 27 = .ok (.aload_n 0, 1) := by decide +kernel
theorem dX4_goBack_28 : decode cX4_goBack 28 = .ok (.getfield 11, 3) := by decide +kernel
theorem dX4_goBack_31 : decode cX4_goBack 31 = .ok (.aload_n 0, 1) := by decide +kernel
theorem dX4_goBack_32 : decode cX4_goBack 32 = .ok (.getfield 22, 3) := by decide +kernel
theorem dX4_goBack_35 : decode cX4_goBack 35 = .ok (.bipush 8, 2) := by decide +kernel
theorem dX4_goBack_37 : decode cX4_goBack 37 = .ok (.imul, 1) := by decide +kernel
theorem dX4_goBack_38 : decode cX4_goBack 38 = .ok (.invokevirtual 39, 3) := by decide +kernel
theorem dX4_goBack_41 : decode cX4_goBack 41 = .ok (.return_, 1) := by decide +kernel
theorem dX9_undo_0 : decode cX9_undo 0 = .ok (.aload_n 0, 1) := by decide +kernel
theorem dX9_undo_1 : decode cX9_undo 1 = .ok (.getfield 43, 3) := by decide +kernel
theorem dX9_undo_4 : decode cX9_undo 4 = .ok (.getfield 206, 3) := by decide +kernel
theorem dX9_undo_7 : decode cX9_undo 7 = .ok (.ifCond .ne 5, 3) := by decide +kernel
theorem dX9_undo_10 : decode cX9_undo 10 = .ok (.iconst (-1), 1) := by decide +kernel
theorem dX9_undo_11 : decode cX9_undo 11 = .ok (.ireturn, 1) := by decide +kernel
theorem dX9_undo_12 : decode cX9_undo 12 = .ok (.aload_n 0, 1) := by decide +kernel
theorem dX9_undo_13 : decode cX9_undo 13 = .ok (.getfield 43, 3) := by decide +kernel
theorem dX9_undo_16 : decode cX9_undo 16 = .ok (.aload_n 0, 1) := by decide +kernel
theorem dX9_undo_17 : decode cX9_undo 17 = .ok (.getfield 39, 3) := by decide +kernel
theorem dX9_undo_20 : decode cX9_undo 20 = .ok (.invokevirtual 209, 3) := by decide +kernel
theorem dX9_undo_23 : decode cX9_undo 23 = .ok (.aload_n 0, 1) := by decide +kernel
theorem dX9_undo_24 : decode cX9_undo 24 = .ok (.getfield 43, 3) := by decide +kernel
theorem dX9_undo_27 : decode cX9_undo 27 = .ok (.getfield 206, 3) := by decide +kernel
theorem dX9_undo_30 : decode cX9_undo 30 = .ok (.ireturn, 1) := by decide +kernel
theorem dX9_reached_0 : decode cX9_reached 0 = .ok (.aload_n 0, 1) := by decide +kernel
theorem dX9_reached_1 : decode cX9_reached 1 = .ok (.getfield 34, 3) := by decide +kernel
theorem dX9_reached_4 : decode cX9_reached 4 = .ok (.iload_n 1, 1) := by decide +kernel
theorem dX9_reached_5 : decode cX9_reached 5 = .ok (.invokevirtual 150, 3) := by decide +kernel
theorem dX9_reached_8 : decode cX9_reached 8 = .ok (.ifCond .ne 5, 3) := by decide +kernel
theorem dX9_reached_11 : decode cX9_reached 11 = .ok (.iconst (-1), 1) := by decide +kernel
theorem dX9_reached_12 : decode cX9_reached 12 = .ok (.ireturn, 1) := by decide +kernel
theorem dX9_reached_13 : decode cX9_reached 13 = .ok (.aload_n 0, 1) := by decide +kernel
theorem dX9_reached_14 : decode cX9_reached 14 = .ok (.aload_n 0, 1) := by decide +kernel
theorem dX9_reached_15 : decode cX9_reached 15 = .ok (.getfield 34, 3) := by decide +kernel
theorem dX9_reached_18 : decode cX9_reached 18 = .ok (.iload_n 1, 1) := by decide +kernel
theorem dX9_reached_19 : decode cX9_reached 19 = .ok (.aload_n 0, 1) := by decide +kernel
theorem dX9_reached_20 : decode cX9_reached 20 = .ok (.getfield 34, 3) := by decide +kernel
theorem dX9_reached_23 : decode cX9_reached 23 = .ok (.iconst 1, 1) := by decide +kernel
theorem dX9_reached_24 : decode cX9_reached 24 = .ok (.iconst 0, 1) := by decide +kernel
theorem dX9_reached_25 : decode cX9_reached 25 = .ok (.invokevirtual 238, 3) := by decide +kernel
theorem dX9_reached_28 : decode cX9_reached 28 = .ok (.invokevirtual 241, 3) := by decide +kernel
theorem dX9_reached_31 : decode cX9_reached 31 = .ok (.aload_n 0, 1) := by decide +kernel
theorem dX9_reached_32 : decode cX9_reached 32 = .ok (.getfield 34, 3) := by decide +kernel
theorem dX9_reached_35 : decode cX9_reached 35 = .ok (.iload_n 1, 1) := by decide +kernel
theorem dX9_reached_36 : decode cX9_reached 36 = .ok (.aload_n 0, 1) := by decide +kernel
theorem dX9_reached_37 : decode cX9_reached 37 = .ok (.getfield 34, 3) := by decide +kernel
theorem dX9_reached_40 : decode cX9_reached 40 = .ok (.iconst 1, 1) := by decide +kernel
theorem dX9_reached_41 : decode cX9_reached 41 = .ok (.iconst 1, 1) := by decide +kernel
theorem dX9_reached_42 : decode cX9_reached 42 = .ok (.invokevirtual 238, 3) := by decide +kernel
theorem dX9_reached_45 : decode cX9_reached 45 = .ok (.invokevirtual 241, 3) := by decide +kernel
theorem dX9_reached_48 : decode cX9_reached 48 = .ok (.invokevirtual 234, 3) := by decide +kernel
theorem dX9_reached_51 : decode cX9_reached 51 = .ok (.aload_n 0, 1) := by decide +kernel
theorem dX9_reached_52 : decode cX9_reached 52 = .ok (.getfield 34, 3) := by decide +kernel
theorem dX9_reached_55 : decode cX9_reached 55 = .ok (.iload_n 1, 1) := by decide +kernel
theorem dX9_reached_56 : decode cX9_reached 56 = .ok (.aload_n 0, 1) := by decide +kernel
theorem dX9_reached_57 : decode cX9_reached 57 = .ok (.getfield 34, 3) := by decide +kernel
theorem dX9_reached_60 : decode cX9_reached 60 = .ok (.iconst 0, 1) := by decide +kernel
theorem dX9_reached_61 : decode cX9_reached 61 = .ok (.iconst 0, 1) := by decide +kernel
theorem dX9_reached_62 : decode cX9_reached 62 = .ok (.invokevirtual 238, 3) := by decide +kernel
theorem dX9_reached_65 : decode cX9_reached 65 = .ok (.invokevirtual 241, 3) := by decide +kernel
theorem dX9_reached_68 : decode cX9_reached 68 = .ok (.ireturn, 1) := by decide +kernel
theorem dX9_from_0 : decode cX9_from 0 = .ok (.aload_n 0, 1) := by decide +kernel
theorem dX9_from_1 : decode cX9_from 1 = .ok (.getfield 34, 3) := by decide +kernel
theorem dX9_from_4 : decode cX9_from 4 = .ok (.iload_n 1, 1) := by decide +kernel
theorem dX9_from_5 : decode cX9_from 5 = .ok (.invokevirtual 117, 3) := by decide +kernel
theorem dX9_from_8 : decode cX9_from 8 = .ok (.ifCond .eq 10, 3) := by decide +kernel
theorem dX9_from_11 : decode cX9_from 11 = .ok (.iload_n 2, 1) := by decide +kernel
theorem dX9_from_12 : decode cX9_from 12 = .ok (.invokestatic 244, 3) := by decide +kernel
theorem dX9_from_15 : decode cX9_from 15 = .ok (.ifCond .ne 5, 3) := by decide +kernel
theorem dX9_from_18 : decode cX9_from 18 = .ok (.iconst (-1), 1) := by decide +kernel
theorem dX9_from_19 : decode cX9_from 19 = .ok (.ireturn, 1) := by decide +kernel
theorem dX9_from_20 : decode cX9_from 20 = .ok (.aload_n 0, 1) := by decide +kernel
theorem dX9_from_21 : decode cX9_from 21 = .ok (.getfield 34, 3) := by decide +kernel
theorem dX9_from_24 : decode cX9_from 24 = .ok (.aload_n 0, 1) := by decide +kernel
theorem dX9_from_25 : decode cX9_from 25 = .ok (.getfield 39, 3) := by decide +kernel
theorem dX9_from_28 : decode cX9_from 28 = .ok (.getfield 247, 3) := by decide +kernel
theorem dX9_from_31 : decode cX9_from 31 = .ok (.iload_n 2, 1) := by decide +kernel
theorem dX9_from_32 : decode cX9_from 32 = .ok (.invokevirtual 238, 3) := by decide +kernel
theorem dX9_from_35 : decode cX9_from 35 = .ok (.istore_n 3, 1) := by decide +kernel
theorem dX9_from_36 : decode cX9_from 36 = .ok (.iconst 0, 1) := by decide +kernel
theorem dX9_from_37 : decode cX9_from 37 = .ok (.istore 4, 2) := by decide +kernel
theorem dX9_from_39 : decode cX9_from 39 = .ok (.iconst 0, 1) := by decide +kernel
theorem dX9_from_40 : decode cX9_from 40 = .ok (.istore 5, 2) := by decide +kernel
theorem dX9_from_42 : decode cX9_from 42 = .ok (.iload 5, 2) := by decide +kernel
theorem dX9_from_44 : decode cX9_from 44 = .ok (.aload_n 0, 1) := by decide +kernel
theorem dX9_from_45 : decode cX9_from 45 = .ok (.getfield 34, 3) := by decide +kernel
theorem dX9_from_48 : decode cX9_from 48 = .ok (.getfield 250, 3) := by decide +kernel
theorem dX9_from_51 : decode cX9_from 51 = .ok (.if_icmp .ge 32, 3) := by decide +kernel
theorem dX9_from_54 : decode cX9_from 54 = .ok (.aload_n 0, 1) := by decide +kernel
theorem dX9_from_55 : decode cX9_from 55 = .ok (.getfield 34, 3) := by decide +kernel
theorem dX9_from_58 : decode cX9_from 58 = .ok (.iload_n 1, 1) := by decide +kernel
theorem dX9_from_59 : decode cX9_from 59 = .ok (.iload 5, 2) := by decide +kernel
theorem dX9_from_61 : decode cX9_from 61 = .ok (.iload_n 3, 1) := by decide +kernel
theorem dX9_from_62 : decode cX9_from 62 = .ok (.invokevirtual 253, 3) := by decide +kernel
theorem dX9_from_65 : decode cX9_from 65 = .ok (.ifCond .eq 12, 3) := by decide +kernel
theorem dX9_from_68 : decode cX9_from 68 = .ok (.iload 4, 2) := by decide +kernel
theorem dX9_from_70 : decode cX9_from 70 = .ok (.iconst 1, 1) := by decide +kernel
theorem dX9_from_71 : decode cX9_from 71 = .ok (.iload 5, 2) := by decide +kernel
theorem dX9_from_73 : decode cX9_from 73 = .ok (.ishl, 1) := by decide +kernel
theorem dX9_from_74 : decode cX9_from 74 = .ok (.ior, 1) := by decide +kernel
theorem dX9_from_75 : decode cX9_from 75 = .ok (.istore 4, 2) := by decide +kernel
theorem dX9_from_77 : decode cX9_from 77 = .ok (.iinc 5 1, 3) := by decide +kernel
theorem dX9_from_80 : decode cX9_from 80 = .ok (.goto (-38), 3) := by decide +kernel
theorem dX9_from_83 : decode cX9_from 83 = .ok (.iload 4, 2) := by decide +kernel
theorem dX9_from_85 : decode cX9_from 85 = .ok (.ireturn, 1) := by decide +kernel
theorem dX9_never_0 : decode cX9_never 0 = .ok (.aload_n 0, 1) := by decide +kernel
theorem dX9_never_1 : decode cX9_never 1 = .ok (.getfield 27, 3) := by decide +kernel
theorem dX9_never_4 : decode cX9_never 4 = .ok (.invokevirtual 143, 3) := by decide +kernel
theorem dX9_never_7 : decode cX9_never 7 = .ok (.istore_n 1, 1) := by decide +kernel
theorem dX9_never_8 : decode cX9_never 8 = .ok (.iconst 0, 1) := by decide +kernel
theorem dX9_never_9 : decode cX9_never 9 = .ok (.istore_n 2, 1) := by decide +kernel
theorem dX9_never_10 : decode cX9_never 10 = .ok (.iload_n 2, 1) := by decide +kernel
theorem dX9_never_11 : decode cX9_never 11 = .ok (.aload_n 0, 1) := by decide +kernel
theorem dX9_never_12 : decode cX9_never 12 = .ok (.getfield 34, 3) := by decide +kernel
theorem dX9_never_15 : decode cX9_never 15 = .ok (.getfield 250, 3) := by decide +kernel
theorem dX9_never_18 : decode cX9_never 18 = .ok (.if_icmp .ge 31, 3) := by decide +kernel
theorem dX9_never_21 : decode cX9_never 21 = .ok (.iload_n 1, 1) := by decide +kernel
theorem dX9_never_22 : decode cX9_never 22 = .ok (.aload_n 0, 1) := by decide +kernel
theorem dX9_never_23 : decode cX9_never 23 = .ok (.getfield 34, 3) := by decide +kernel
theorem dX9_never_26 : decode cX9_never 26 = .ok (.iload_n 2, 1) := by decide +kernel
theorem dX9_never_27 : decode cX9_never 27 = .ok (.aload_n 0, 1) := by decide +kernel
theorem dX9_never_28 : decode cX9_never 28 = .ok (.getfield 34, 3) := by decide +kernel
theorem dX9_never_31 : decode cX9_never 31 = .ok (.iconst 1, 1) := by decide +kernel
theorem dX9_never_32 : decode cX9_never 32 = .ok (.iconst 1, 1) := by decide +kernel
theorem dX9_never_33 : decode cX9_never 33 = .ok (.invokevirtual 238, 3) := by decide +kernel
theorem dX9_never_36 : decode cX9_never 36 = .ok (.invokevirtual 241, 3) := by decide +kernel
theorem dX9_never_39 : decode cX9_never 39 = .ok (.iconst (-1), 1) := by decide +kernel
theorem dX9_never_40 : decode cX9_never 40 = .ok (.ixor, 1) := by decide +kernel
theorem dX9_never_41 : decode cX9_never 41 = .ok (.iand, 1) := by decide +kernel
theorem dX9_never_42 : decode cX9_never 42 = .ok (.istore_n 1, 1) := by decide +kernel
theorem dX9_never_43 : decode cX9_never 43 = .ok (.iinc 2 1, 3) := by decide +kernel
theorem dX9_never_46 : decode cX9_never 46 = .ok (.goto (-36), 3) := by decide +kernel
theorem dX9_never_49 : decode cX9_never 49 = .ok (.aload_n 0, 1) := by decide +kernel
theorem dX9_never_50 : decode cX9_never 50 = .ok (.aload_n 0, 1) := by decide +kernel
theorem dX9_never_51 : decode cX9_never 51 = .ok (.getfield 27, 3) := by decide +kernel
theorem dX9_never_54 : decode cX9_never 54 = .ok (.iload_n 1, 1) := by decide +kernel
theorem dX9_never_55 : decode cX9_never 55 = .ok (.invokevirtual 257, 3) := by decide +kernel
theorem dX9_never_58 : decode cX9_never 58 = .ok (.invokevirtual 260, 3) := by decide +kernel
theorem dX9_never_61 : decode cX9_never 61 = .ok (.iload_n 1, 1) := by decide +kernel
theorem dX9_never_62 : decode cX9_never 62 = .ok (.ireturn, 1) := by decide +kernel
theorem dX9_seconds_0 : decode cX9_seconds 0 = .ok (.aload_n 0, 1) := by decide +kernel
theorem dX9_seconds_1 : decode cX9_seconds 1 = .ok (.getfield 34, 3) := by decide +kernel
theorem dX9_seconds_4 : decode cX9_seconds 4 = .ok (.iload_n 1, 1) := by decide +kernel
theorem dX9_seconds_5 : decode cX9_seconds 5 = .ok (.invokevirtual 117, 3) := by decide +kernel
theorem dX9_seconds_8 : decode cX9_seconds 8 = .ok (.ifCond .eq 21, 3) := by decide +kernel
theorem dX9_seconds_11 : decode cX9_seconds 11 = .ok (.aload_n 0, 1) := by decide +kernel
theorem dX9_seconds_12 : decode cX9_seconds 12 = .ok (.getfield 34, 3) := by decide +kernel
theorem dX9_seconds_15 : decode cX9_seconds 15 = .ok (.iload_n 2, 1) := by decide +kernel
theorem dX9_seconds_16 : decode cX9_seconds 16 = .ok (.invokevirtual 150, 3) := by decide +kernel
theorem dX9_seconds_19 : decode cX9_seconds 19 = .ok (.ifCond .eq 10, 3) := by decide +kernel
theorem dX9_seconds_22 : decode cX9_seconds 22 = .ok (.iload_n 3, 1) := by decide +kernel
theorem dX9_seconds_23 : decode cX9_seconds 23 = .ok (.invokestatic 244, 3) := by decide +kernel
theorem dX9_seconds_26 : decode cX9_seconds 26 = .ok (.ifCond .ne 5, 3) := by decide +kernel
theorem dX9_seconds_29 : decode cX9_seconds 29 = .ok (.iconst (-1), 1) := by decide +kernel
theorem dX9_seconds_30 : decode cX9_seconds 30 = .ok (.ireturn, 1) := by decide +kernel
theorem dX9_seconds_31 : decode cX9_seconds 31 = .ok (.aload_n 0, 1) := by decide +kernel
theorem dX9_seconds_32 : decode cX9_seconds 32 = .ok (.getfield 34, 3) := by decide +kernel
theorem dX9_seconds_35 : decode cX9_seconds 35 = .ok (.iload_n 1, 1) := by decide +kernel
theorem dX9_seconds_36 : decode cX9_seconds 36 = .ok (.iload_n 2, 1) := by decide +kernel
theorem dX9_seconds_37 : decode cX9_seconds 37 = .ok (.aload_n 0, 1) := by decide +kernel
theorem dX9_seconds_38 : decode cX9_seconds 38 = .ok (.getfield 34, 3) := by decide +kernel
theorem dX9_seconds_41 : decode cX9_seconds 41 = .ok (.aload_n 0, 1) := by decide +kernel
theorem dX9_seconds_42 : decode cX9_seconds 42 = .ok (.getfield 39, 3) := by decide +kernel
theorem dX9_seconds_45 : decode cX9_seconds 45 = .ok (.getfield 247, 3) := by decide +kernel
theorem dX9_seconds_48 : decode cX9_seconds 48 = .ok (.iload_n 3, 1) := by decide +kernel
theorem dX9_seconds_49 : decode cX9_seconds 49 = .ok (.invokevirtual 238, 3) := by decide +kernel
theorem dX9_seconds_52 : decode cX9_seconds 52 = .ok (.invokevirtual 253, 3) := by decide +kernel
theorem dX9_seconds_55 : decode cX9_seconds 55 = .ok (.ifCond .ne 6, 3) := by decide +kernel
theorem dX9_seconds_58 : decode cX9_seconds 58 = .ok (.bipush (-2), 2) := by decide +kernel
theorem dX9_seconds_60 : decode cX9_seconds 60 = .ok (.ireturn, 1) := by decide +kernel
theorem dX9_seconds_61 : decode cX9_seconds 61 = .ok (.aload_n 0, 1) := by decide +kernel
theorem dX9_seconds_62 : decode cX9_seconds 62 = .ok (.getfield 27, 3) := by decide +kernel
theorem dX9_seconds_65 : decode cX9_seconds 65 = .ok (.iload_n 1, 1) := by decide +kernel
theorem dX9_seconds_66 : decode cX9_seconds 66 = .ok (.iload_n 2, 1) := by decide +kernel
theorem dX9_seconds_67 : decode cX9_seconds 67 = .ok (.iload_n 3, 1) := by decide +kernel
theorem dX9_seconds_68 : decode cX9_seconds 68 = .ok (.iconst 0, 1) := by decide +kernel
theorem dX9_seconds_69 : decode cX9_seconds 69 = .ok (.invokevirtual 262, 3) := by decide +kernel
theorem dX9_seconds_72 : decode cX9_seconds 72 = .ok (.ireturn, 1) := by decide +kernel
theorem dX3_allStandings_0 : decode cX3_allStandings 0 = .ok (.iconst 1, 1) := by decide +kernel
theorem dX3_allStandings_1 : decode cX3_allStandings 1 = .ok (.aload_n 0, 1) := by decide +kernel
theorem dX3_allStandings_2 : decode cX3_allStandings 2 = .ok (.getfield 37, 3) := by decide +kernel
theorem dX3_allStandings_5 : decode cX3_allStandings 5 = .ok (.ishl, 1) := by decide +kernel
theorem dX3_allStandings_6 : decode cX3_allStandings 6 = .ok (.iconst 1, 1) := by decide +kernel
theorem dX3_allStandings_7 : decode cX3_allStandings 7 = .ok (.isub, 1) := by decide +kernel
theorem dX3_allStandings_8 : decode cX3_allStandings 8 = .ok (.ireturn, 1) := by decide +kernel
theorem dX5_reachedBy_0 : decode cX5_reachedBy 0 = .ok (.iconst 0, 1) := by decide +kernel
theorem dX5_reachedBy_1 : decode cX5_reachedBy 1 = .ok (.istore_n 2, 1) := by decide +kernel
theorem dX5_reachedBy_2 : decode cX5_reachedBy 2 = .ok (.iconst 0, 1) := by decide +kernel
theorem dX5_reachedBy_3 : decode cX5_reachedBy 3 = .ok (.istore_n 3, 1) := by decide +kernel
theorem dX5_reachedBy_4 : decode cX5_reachedBy 4 = .ok (.iload_n 3, 1) := by decide +kernel
theorem dX5_reachedBy_5 : decode cX5_reachedBy 5 = .ok (.aload_n 0, 1) := by decide +kernel
theorem dX5_reachedBy_6 : decode cX5_reachedBy 6 = .ok (.getfield 24, 3) := by decide +kernel
theorem dX5_reachedBy_9 : decode cX5_reachedBy 9 = .ok (.getfield 64, 3) := by decide +kernel
theorem dX5_reachedBy_12 : decode cX5_reachedBy 12 = .ok (.if_icmp .ge 26, 3) := by decide +kernel
theorem dX5_reachedBy_15 : decode cX5_reachedBy 15 = .ok (.iload_n 1, 1) := by decide +kernel
theorem dX5_reachedBy_16 : decode cX5_reachedBy 16 = .ok (.iload_n 3, 1) := by decide +kernel
theorem dX5_reachedBy_17 : decode cX5_reachedBy 17 = .ok (.ishr, 1) := by decide +kernel
theorem dX5_reachedBy_18 : decode cX5_reachedBy 18 = .ok (.iconst 1, 1) := by decide +kernel
theorem dX5_reachedBy_19 : decode cX5_reachedBy 19 = .ok (.iand, 1) := by decide +kernel
theorem dX5_reachedBy_20 : decode cX5_reachedBy 20 = .ok (.ifCond .eq 12, 3) := by decide +kernel
theorem dX5_reachedBy_23 : decode cX5_reachedBy 23 = .ok (.iload_n 2, 1) := by decide +kernel
theorem dX5_reachedBy_24 : decode cX5_reachedBy 24 = .ok (.aload_n 0, 1) := by decide +kernel
theorem dX5_reachedBy_25 : decode cX5_reachedBy 25 = .ok (.getfield 25, 3) := by decide +kernel
theorem dX5_reachedBy_28 : decode cX5_reachedBy 28 = .ok (.iload_n 3, 1) := by decide +kernel
theorem dX5_reachedBy_29 : decode cX5_reachedBy 29 = .ok (.iaload, 1) := by decide +kernel
theorem dX5_reachedBy_30 : decode cX5_reachedBy 30 = .ok (.ior, 1) := by decide +kernel
theorem dX5_reachedBy_31 : decode cX5_reachedBy 31 = .ok (.istore_n 2, 1) := by decide +kernel
theorem dX5_reachedBy_32 : decode cX5_reachedBy 32 = .ok (.iinc 3 1, 3) := by decide +kernel
theorem dX5_reachedBy_35 : decode cX5_reachedBy 35 = .ok (.goto (-31), 3) := by decide +kernel
theorem dX5_reachedBy_38 : decode cX5_reachedBy 38 = .ok (.iload_n 2, 1) := by decide +kernel
theorem dX5_reachedBy_39 : decode cX5_reachedBy 39 = .ok (.ireturn, 1) := by decide +kernel
theorem dX5_lookAs_0 : decode cX5_lookAs 0 = .ok (.aload_n 0, 1) := by decide +kernel
theorem dX5_lookAs_1 : decode cX5_lookAs 1 = .ok (.getfield 24, 3) := by decide +kernel
theorem dX5_lookAs_4 : decode cX5_lookAs 4 = .ok (.iload_n 1, 1) := by decide +kernel
theorem dX5_lookAs_5 : decode cX5_lookAs 5 = .ok (.iconst 0, 1) := by decide +kernel
theorem dX5_lookAs_6 : decode cX5_lookAs 6 = .ok (.invokevirtual 58, 3) := by decide +kernel
theorem dX5_lookAs_9 : decode cX5_lookAs 9 = .ok (.istore_n 3, 1) := by decide +kernel
theorem dX5_lookAs_10 : decode cX5_lookAs 10 = .ok (.iconst 0, 1) := by decide +kernel
theorem dX5_lookAs_11 : decode cX5_lookAs 11 = .ok (.istore 4, 2) := by decide +kernel
theorem dX5_lookAs_13 : decode cX5_lookAs 13 = .ok (.iload 4, 2) := by decide +kernel
theorem dX5_lookAs_15 : decode cX5_lookAs 15 = .ok (.aload_n 0, 1) := by decide +kernel
theorem dX5_lookAs_16 : decode cX5_lookAs 16 = .ok (.getfield 24, 3) := by decide +kernel
theorem dX5_lookAs_19 : decode cX5_lookAs 19 = .ok (.getfield 64, 3) := by decide +kernel
theorem dX5_lookAs_22 : decode cX5_lookAs 22 = .ok (.if_icmp .ge 26, 3) := by decide +kernel
theorem dX5_lookAs_25 : decode cX5_lookAs 25 = .ok (.aload_n 0, 1) := by decide +kernel
theorem dX5_lookAs_26 : decode cX5_lookAs 26 = .ok (.getfield 25, 3) := by decide +kernel
theorem dX5_lookAs_29 : decode cX5_lookAs 29 = .ok (.iload 4, 2) := by decide +kernel
theorem dX5_lookAs_31 : decode cX5_lookAs 31 = .ok (.aload_n 0, 1) := by decide +kernel
theorem dX5_lookAs_32 : decode cX5_lookAs 32 = .ok (.getfield 24, 3) := by decide +kernel
theorem dX5_lookAs_35 : decode cX5_lookAs 35 = .ok (.iload 4, 2) := by decide +kernel
theorem dX5_lookAs_37 : decode cX5_lookAs 37 = .ok (.iload_n 3, 1) := by decide +kernel
theorem dX5_lookAs_38 : decode cX5_lookAs 38 = .ok (.invokevirtual 67, 3) := by decide +kernel
theorem dX5_lookAs_41 : decode cX5_lookAs 41 = .ok (.iastore, 1) := by decide +kernel
theorem dX5_lookAs_42 : decode cX5_lookAs 42 = .ok (.iinc 4 1, 3) := by decide +kernel
theorem dX5_lookAs_45 : decode cX5_lookAs 45 = .ok (.goto (-32), 3) := by decide +kernel
theorem dX5_lookAs_48 : decode cX5_lookAs 48 = .ok (.aload_n 0, 1) := by decide +kernel
theorem dX5_lookAs_49 : decode cX5_lookAs 49 = .ok (.aload_n 0, 1) := by decide +kernel
theorem dX5_lookAs_50 : decode cX5_lookAs 50 = .ok (.getfield 14, 3) := by decide +kernel
theorem dX5_lookAs_53 : decode cX5_lookAs 53 = .ok (.invokevirtual 70, 3) := by decide +kernel
theorem dX5_lookAs_56 : decode cX5_lookAs 56 = .ok (.aload_n 0, 1) := by decide +kernel
theorem dX5_lookAs_57 : decode cX5_lookAs 57 = .ok (.getfield 24, 3) := by decide +kernel
theorem dX5_lookAs_60 : decode cX5_lookAs 60 = .ok (.iload_n 2, 1) := by decide +kernel
theorem dX5_lookAs_61 : decode cX5_lookAs 61 = .ok (.invokevirtual 74, 3) := by decide +kernel
theorem dX5_lookAs_64 : decode cX5_lookAs 64 = .ok (.iand, 1) := by decide +kernel
theorem dX5_lookAs_65 : decode cX5_lookAs 65 = .ok (.aload_n 0, 1) := by decide +kernel
theorem dX5_lookAs_66 : decode cX5_lookAs 66 = .ok (.aload_n 0, 1) := by decide +kernel
theorem dX5_lookAs_67 : decode cX5_lookAs 67 = .ok (.getfield 24, 3) := by decide +kernel
theorem dX5_lookAs_70 : decode cX5_lookAs 70 = .ok (.invokevirtual 78, 3) := by decide +kernel
theorem dX5_lookAs_73 : decode cX5_lookAs 73 = .ok (.invokevirtual 81, 3) := by decide +kernel
theorem dX5_lookAs_76 : decode cX5_lookAs 76 = .ok (.iand, 1) := by decide +kernel
theorem dX5_lookAs_77 : decode cX5_lookAs 77 = .ok (.putfield 84, 3) := by decide +kernel
theorem dX5_lookAs_80 : decode cX5_lookAs 80 = .ok (.return_, 1) := by decide +kernel
theorem dX5_look_0 : decode cX5_look 0 = .ok (.aload_n 0, 1) := by decide +kernel
theorem dX5_look_1 : decode cX5_look 1 = .ok (.aload_n 0, 1) := by decide +kernel
theorem dX5_look_2 : decode cX5_look 2 = .ok (.getfield 14, 3) := by decide +kernel
theorem dX5_look_5 : decode cX5_look 5 = .ok (.getfield 41, 3) := by decide +kernel
theorem dX5_look_8 : decode cX5_look 8 = .ok (.getfield 45, 3) := by decide +kernel
theorem dX5_look_11 : decode cX5_look 11 = .ok (.aload_n 0, 1) := by decide +kernel
theorem dX5_look_12 : decode cX5_look 12 = .ok (.getfield 14, 3) := by decide +kernel
theorem dX5_look_15 : decode cX5_look 15 = .ok (.getfield 41, 3) := by decide +kernel
theorem dX5_look_18 : decode cX5_look 18 = .ok (.getfield 51, 3) := by decide +kernel
theorem dX5_look_21 : decode cX5_look 21 = .ok (.invokevirtual 54, 3) := by decide +kernel
theorem dX5_look_24 : decode cX5_look 24 = .ok (.return_, 1) := by decide +kernel
theorem dX5_wantedFrom_0 : decode cX5_wantedFrom 0 = .ok (.aload_n 0, 1) := by decide +kernel
theorem dX5_wantedFrom_1 : decode cX5_wantedFrom 1 = .ok (.getfield 84, 3) := by decide +kernel
theorem dX5_wantedFrom_4 : decode cX5_wantedFrom 4 = .ok (.aload_n 0, 1) := by decide +kernel
theorem dX5_wantedFrom_5 : decode cX5_wantedFrom 5 = .ok (.getfield 25, 3) := by decide +kernel
theorem dX5_wantedFrom_8 : decode cX5_wantedFrom 8 = .ok (.iload_n 1, 1) := by decide +kernel
theorem dX5_wantedFrom_9 : decode cX5_wantedFrom 9 = .ok (.iaload, 1) := by decide +kernel
theorem dX5_wantedFrom_10 : decode cX5_wantedFrom 10 = .ok (.iand, 1) := by decide +kernel
theorem dX5_wantedFrom_11 : decode cX5_wantedFrom 11 = .ok (.ireturn, 1) := by decide +kernel
theorem dX9_both_0 : decode cX9_both 0 = .ok (.aload_n 0, 1) := by decide +kernel
theorem dX9_both_1 : decode cX9_both 1 = .ok (.getfield 34, 3) := by decide +kernel
theorem dX9_both_4 : decode cX9_both 4 = .ok (.iload_n 1, 1) := by decide +kernel
theorem dX9_both_5 : decode cX9_both 5 = .ok (.invokevirtual 150, 3) := by decide +kernel
theorem dX9_both_8 : decode cX9_both 8 = .ok (.ifCond .eq 19, 3) := by decide +kernel
theorem dX9_both_11 : decode cX9_both 11 = .ok (.aload_n 0, 1) := by decide +kernel
theorem dX9_both_12 : decode cX9_both 12 = .ok (.getfield 34, 3) := by decide +kernel
theorem dX9_both_15 : decode cX9_both 15 = .ok (.iload_n 2, 1) := by decide +kernel
theorem dX9_both_16 : decode cX9_both 16 = .ok (.invokevirtual 150, 3) := by decide +kernel
theorem dX9_both_19 : decode cX9_both 19 = .ok (.ifCond .eq 8, 3) := by decide +kernel
theorem dX9_both_22 : decode cX9_both 22 = .ok (.iload_n 1, 1) := by decide +kernel
theorem dX9_both_23 : decode cX9_both 23 = .ok (.iload_n 2, 1) := by decide +kernel
theorem dX9_both_24 : decode cX9_both 24 = .ok (.if_icmp .ne 5, 3) := by decide +kernel
theorem dX9_both_27 : decode cX9_both 27 = .ok (.iconst (-1), 1) := by decide +kernel
theorem dX9_both_28 : decode cX9_both 28 = .ok (.ireturn, 1) := by decide +kernel
theorem dX9_both_29 : decode cX9_both 29 = .ok (.aload_n 0, 1) := by decide +kernel
theorem dX9_both_30 : decode cX9_both 30 = .ok (.getfield 19, 3) := by decide +kernel
theorem dX9_both_33 : decode cX9_both 33 = .ok (.invokevirtual 265, 3) := by decide +kernel
theorem dX9_both_36 : decode cX9_both 36 = .ok (.aload_n 0, 1) := by decide +kernel
theorem dX9_both_37 : decode cX9_both 37 = .ok (.getfield 19, 3) := by decide +kernel
theorem dX9_both_40 : decode cX9_both 40 = .ok (.iload_n 1, 1) := by decide +kernel
theorem dX9_both_41 : decode cX9_both 41 = .ok (.invokevirtual 268, 3) := by decide +kernel
theorem dX9_both_44 : decode cX9_both 44 = .ok (.istore_n 3, 1) := by decide +kernel
theorem dX9_both_45 : decode cX9_both 45 = .ok (.aload_n 0, 1) := by decide +kernel
theorem dX9_both_46 : decode cX9_both 46 = .ok (.getfield 19, 3) := by decide +kernel
theorem dX9_both_49 : decode cX9_both 49 = .ok (.iload_n 2, 1) := by decide +kernel
theorem dX9_both_50 : decode cX9_both 50 = .ok (.invokevirtual 268, 3) := by decide +kernel
theorem dX9_both_53 : decode cX9_both 53 = .ok (.istore 4, 2) := by decide +kernel
theorem dX9_both_55 : decode cX9_both 55 = .ok (.aload_n 0, 1) := by decide +kernel
theorem dX9_both_56 : decode cX9_both 56 = .ok (.iload_n 3, 1) := by decide +kernel
theorem dX9_both_57 : decode cX9_both 57 = .ok (.iload 4, 2) := by decide +kernel
theorem dX9_both_59 : decode cX9_both 59 = .ok (.iconst (-1), 1) := by decide +kernel
theorem dX9_both_60 : decode cX9_both 60 = .ok (.ixor, 1) := by decide +kernel
theorem dX9_both_61 : decode cX9_both 61 = .ok (.iand, 1) := by decide +kernel
theorem dX9_both_62 : decode cX9_both 62 = .ok (.iload 4, 2) := by decide +kernel
theorem dX9_both_64 : decode cX9_both 64 = .ok (.iload_n 3, 1) := by decide +kernel
theorem dX9_both_65 : decode cX9_both 65 = .ok (.iconst (-1), 1) := by decide +kernel
theorem dX9_both_66 : decode cX9_both 66 = .ok (.ixor, 1) := by decide +kernel
theorem dX9_both_67 : decode cX9_both 67 = .ok (.iand, 1) := by decide +kernel
theorem dX9_both_68 : decode cX9_both 68 = .ok (.invokevirtual 234, 3) := by decide +kernel
theorem dX9_both_71 : decode cX9_both 71 = .ok (.iload_n 3, 1) := by decide +kernel
theorem dX9_both_72 : decode cX9_both 72 = .ok (.iload 4, 2) := by decide +kernel
theorem dX9_both_74 : decode cX9_both 74 = .ok (.iand, 1) := by decide +kernel
theorem dX9_both_75 : decode cX9_both 75 = .ok (.ireturn, 1) := by decide +kernel
theorem dX3_leanNeeded_0 : decode cX3_leanNeeded 0 = .ok (.iconst 0, 1) := by decide +kernel
theorem dX3_leanNeeded_1 : decode cX3_leanNeeded 1 = .ok (.istore_n 3, 1) := by decide +kernel
theorem dX3_leanNeeded_2 : decode cX3_leanNeeded 2 = .ok (.iload_n 3, 1) := by decide +kernel
theorem dX3_leanNeeded_3 : decode cX3_leanNeeded 3 = .ok (.bipush 30, 2) := by decide +kernel
theorem dX3_leanNeeded_5 : decode cX3_leanNeeded 5 = .ok (.if_icmp .gt 28, 3) := by decide +kernel
theorem dX3_leanNeeded_8 : decode cX3_leanNeeded 8 = .ok (.aload_n 0, 1) := by decide +kernel
theorem dX3_leanNeeded_9 : decode cX3_leanNeeded 9 = .ok (.iload_n 1, 1) := by decide +kernel
theorem dX3_leanNeeded_10 : decode cX3_leanNeeded 10 = .ok (.iload_n 2, 1) := by decide +kernel
theorem dX3_leanNeeded_11 : decode cX3_leanNeeded 11 = .ok (.aload_n 0, 1) := by decide +kernel
theorem dX3_leanNeeded_12 : decode cX3_leanNeeded 12 = .ok (.getfield 30, 3) := by decide +kernel
theorem dX3_leanNeeded_15 : decode cX3_leanNeeded 15 = .ok (.iconst 0, 1) := by decide +kernel
theorem dX3_leanNeeded_16 : decode cX3_leanNeeded 16 = .ok (.iaload, 1) := by decide +kernel
theorem dX3_leanNeeded_17 : decode cX3_leanNeeded 17 = .ok (.iload_n 3, 1) := by decide +kernel
theorem dX3_leanNeeded_18 : decode cX3_leanNeeded 18 = .ok (.iadd, 1) := by decide +kernel
theorem dX3_leanNeeded_19 : decode cX3_leanNeeded 19 = .ok (.invokevirtual 101, 3) := by decide +kernel
