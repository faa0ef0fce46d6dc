theorem dX4_store_5 : decode cX4_store 5 = .ok (.iconst 2, 1) := by decide +kernel
theorem dX4_store_6 : decode cX4_store 6 = .ok (.if_icmp .lt 5, 3) := by decide +kernel
theorem dX4_store_9 : decode cX4_store 9 = .ok (.iconst 0, 1) := by decide +kernel
theorem dX4_store_10 : decode cX4_store 10 = .ok (.ireturn, 1) := by decide +kernel
theorem dX4_store_11 : decode cX4_store 11 = .ok (.aload_n 2, 1) := by decide +kernel
theorem dX4_store_12 : decode cX4_store 12 = .ok (.aload_n 0, 1) := by decide +kernel
theorem dX4_store_13 : decode cX4_store 13 = .ok (.getfield 15, 3) := by decide +kernel
theorem dX4_store_16 : decode cX4_store 16 = .ok (.iload_n 1, 1) := by decide +kernel
theorem dX4_store_17 : decode cX4_store 17 = .ok (.bipush 8, 2) := by decide +kernel
theorem dX4_store_19 : decode cX4_store 19 = .ok (.imul, 1) := by decide +kernel
theorem dX4_store_20 : decode cX4_store 20 = .ok (.invokevirtual 26, 3) := by decide +kernel
theorem dX4_store_23 : decode cX4_store 23 = .ok (.aload_n 0, 1) := by decide +kernel
theorem dX4_store_24 : decode cX4_store 24 = .ok (.getfield 18, 3) := by decide +kernel
theorem dX4_store_27 : decode cX4_store 27 = .ok (.iload_n 1, 1) := by decide +kernel
theorem dX4_store_28 : decode cX4_store 28 = .ok (.iconst 1, 1) := by decide +kernel
theorem dX4_store_29 : decode cX4_store 29 = .ok (.bastore, 1) := by decide +kernel
theorem dX4_store_30 : decode cX4_store 30 = .ok (.iconst 1, 1) := by decide +kernel
theorem dX4_store_31 : decode cX4_store 31 = .ok (.ireturn, 1) := by decide +kernel
theorem dX9_keep_0 : decode cX9_keep 0 = .ok (.aload_n 0, 1) := by decide +kernel
theorem dX9_keep_1 : decode cX9_keep 1 = .ok (.getfield 43, 3) := by decide +kernel
theorem dX9_keep_4 : decode cX9_keep 4 = .ok (.iload_n 1, 1) := by decide +kernel
theorem dX9_keep_5 : decode cX9_keep 5 = .ok (.aload_n 0, 1) := by decide +kernel
theorem dX9_keep_6 : decode cX9_keep 6 = .ok (.getfield 39, 3) := by decide +kernel
theorem dX9_keep_9 : decode cX9_keep 9 = .ok (.invokevirtual 422, 3) := by decide +kernel
theorem dX9_keep_12 : decode cX9_keep 12 = .ok (.ireturn, 1) := by decide +kernel
theorem dX4_fetch_0 : decode cX4_fetch 0 = .ok (.iload_n 1, 1) := by decide +kernel
theorem dX4_fetch_1 : decode cX4_fetch 1 = .ok (.ifCond .lt 17, 3) := by decide +kernel
theorem dX4_fetch_4 : decode cX4_fetch 4 = .ok (.iload_n 1, 1) := by decide +kernel
theorem dX4_fetch_5 : decode cX4_fetch 5 = .ok (.iconst 2, 1) := by decide +kernel
theorem dX4_fetch_6 : decode cX4_fetch 6 = .ok (.if_icmp .ge 12, 3) := by decide +kernel
theorem dX4_fetch_9 : decode cX4_fetch 9 = .ok (.aload_n 0, 1) := by decide +kernel
theorem dX4_fetch_10 : decode cX4_fetch 10 = .ok (.getfield 18, 3) := by decide +kernel
theorem dX4_fetch_13 : decode cX4_fetch 13 = .ok (.iload_n 1, 1) := by decide +kernel
theorem dX4_fetch_14 : decode cX4_fetch 14 = .ok (.baload, 1) := by decide +kernel
theorem dX4_fetch_15 : decode cX4_fetch 15 = .ok (.ifCond .ne 5, 3) := by decide +kernel
theorem dX4_fetch_18 : decode cX4_fetch 18 = .ok (.iconst 0, 1) := by decide +kernel
theorem dX4_fetch_19 : decode cX4_fetch 19 = .ok (.ireturn, 1) := by decide +kernel
theorem dX4_fetch_20 : decode cX4_fetch 20 = .ok (.aload_n 2, 1) := by decide +kernel
theorem dX4_fetch_21 : decode cX4_fetch 21 = .ok (.aload_n 0, 1) := by decide +kernel
theorem dX4_fetch_22 : decode cX4_fetch 22 = .ok (.getfield 15, 3) := by decide +kernel
theorem dX4_fetch_25 : decode cX4_fetch 25 = .ok (.iload_n 1, 1) := by decide +kernel
theorem dX4_fetch_26 : decode cX4_fetch 26 = .ok (.bipush 8, 2) := by decide +kernel
theorem dX4_fetch_28 : decode cX4_fetch 28 = .ok (.imul, 1) := by decide +kernel
theorem dX4_fetch_29 : decode cX4_fetch 29 = .ok (.invokevirtual 39, 3) := by decide +kernel
theorem dX4_fetch_32 : decode cX4_fetch 32 = .ok (.aload_n 0, 1) := by decide +kernel
theorem dX4_fetch_33 : decode cX4_fetch 33 = .ok (.iconst 0, 1) := by decide +kernel
theorem dX4_fetch_34 : decode cX4_fetch 34 = .ok (.putfield 30, 3) := by decide +kernel
theorem dX4_fetch_37 : decode cX4_fetch 37 = .ok (.iconst 1, 1) := by decide +kernel
theorem dX4_fetch_38 : decode cX4_fetch 38 = .ok (.ireturn, 1) := by decide +kernel
theorem dX9_again_0 : decode cX9_again 0 = .ok (.aload_n 0, 1) := by decide +kernel
theorem dX9_again_1 : decode cX9_again 1 = .ok (.getfield 43, 3) := by decide +kernel
theorem dX9_again_4 : decode cX9_again 4 = .ok (.iload_n 1, 1) := by decide +kernel
theorem dX9_again_5 : decode cX9_again 5 = .ok (.aload_n 0, 1) := by decide +kernel
theorem dX9_again_6 : decode cX9_again 6 = .ok (.getfield 39, 3) := by decide +kernel
theorem dX9_again_9 : decode cX9_again 9 = .ok (.invokevirtual 426, 3) := by decide +kernel
theorem dX9_again_12 : decode cX9_again 12 = .ok (.ireturn, 1) := by decide +kernel
theorem dX9_count_0 : decode cX9_count 0 = .ok (.iload_n 1, 1) := by decide +kernel
theorem dX9_count_1 : decode cX9_count 1 = .ok (.tableswitch 190 0 13 #[71, 79, 87, 95, 103, 111, 119, 127, 135, 143, 151, 166, 174, 182], 71) := by decide +kernel
theorem dX9_count_72 : decode cX9_count 72 = .ok (.aload_n 0, 1) := by decide +kernel
theorem dX9_count_73 : decode cX9_count 73 = .ok (.getfield 34, 3) := by decide +kernel
theorem dX9_count_76 : decode cX9_count 76 = .ok (.getfield 341, 3) := by decide +kernel
theorem dX9_count_79 : decode cX9_count 79 = .ok (.ireturn, 1) := by decide +kernel
theorem dX9_count_80 : decode cX9_count 80 = .ok (.aload_n 0, 1) := by decide +kernel
theorem dX9_count_81 : decode cX9_count 81 = .ok (.getfield 34, 3) := by decide +kernel
theorem dX9_count_84 : decode cX9_count 84 = .ok (.getfield 250, 3) := by decide +kernel
theorem dX9_count_87 : decode cX9_count 87 = .ok (.ireturn, 1) := by decide +kernel
theorem dX9_count_88 : decode cX9_count 88 = .ok (.aload_n 0, 1) := by decide +kernel
theorem dX9_count_89 : decode cX9_count 89 = .ok (.getfield 39, 3) := by decide +kernel
theorem dX9_count_92 : decode cX9_count 92 = .ok (.getfield 308, 3) := by decide +kernel
theorem dX9_count_95 : decode cX9_count 95 = .ok (.ireturn, 1) := by decide +kernel
theorem dX9_count_96 : decode cX9_count 96 = .ok (.aload_n 0, 1) := by decide +kernel
theorem dX9_count_97 : decode cX9_count 97 = .ok (.getfield 39, 3) := by decide +kernel
theorem dX9_count_100 : decode cX9_count 100 = .ok (.getfield 350, 3) := by decide +kernel
theorem dX9_count_103 : decode cX9_count 103 = .ok (.ireturn, 1) := by decide +kernel
theorem dX9_count_104 : decode cX9_count 104 = .ok (.aload_n 0, 1) := by decide +kernel
theorem dX9_count_105 : decode cX9_count 105 = .ok (.getfield 39, 3) := by decide +kernel
theorem dX9_count_108 : decode cX9_count 108 = .ok (.getfield 429, 3) := by decide +kernel
theorem dX9_count_111 : decode cX9_count 111 = .ok (.ireturn, 1) := by decide +kernel
theorem dX9_count_112 : decode cX9_count 112 = .ok (.aload_n 0, 1) := by decide +kernel
theorem dX9_count_113 : decode cX9_count 113 = .ok (.getfield 27, 3) := by decide +kernel
theorem dX9_count_116 : decode cX9_count 116 = .ok (.invokevirtual 143, 3) := by decide +kernel
theorem dX9_count_119 : decode cX9_count 119 = .ok (.ireturn, 1) := by decide +kernel
theorem dX9_count_120 : decode cX9_count 120 = .ok (.aload_n 0, 1) := by decide +kernel
theorem dX9_count_121 : decode cX9_count 121 = .ok (.getfield 39, 3) := by decide +kernel
theorem dX9_count_124 : decode cX9_count 124 = .ok (.getfield 347, 3) := by decide +kernel
theorem dX9_count_127 : decode cX9_count 127 = .ok (.ireturn, 1) := by decide +kernel
theorem dX9_count_128 : decode cX9_count 128 = .ok (.aload_n 0, 1) := by decide +kernel
theorem dX9_count_129 : decode cX9_count 129 = .ok (.getfield 39, 3) := by decide +kernel
theorem dX9_count_132 : decode cX9_count 132 = .ok (.getfield 432, 3) := by decide +kernel
theorem dX9_count_135 : decode cX9_count 135 = .ok (.ireturn, 1) := by decide +kernel
theorem dX9_count_136 : decode cX9_count 136 = .ok (.aload_n 0, 1) := by decide +kernel
theorem dX9_count_137 : decode cX9_count 137 = .ok (.getfield 39, 3) := by decide +kernel
theorem dX9_count_140 : decode cX9_count 140 = .ok (.getfield 435, 3) := by decide +kernel
theorem dX9_count_143 : decode cX9_count 143 = .ok (.ireturn, 1) := by decide +kernel
theorem dX9_count_144 : decode cX9_count 144 = .ok (.aload_n 0, 1) := by decide +kernel
theorem dX9_count_145 : decode cX9_count 145 = .ok (.getfield 39, 3) := by decide +kernel
theorem dX9_count_148 : decode cX9_count 148 = .ok (.getfield 140, 3) := by decide +kernel
theorem dX9_count_151 : decode cX9_count 151 = .ok (.ireturn, 1) := by decide +kernel
theorem dX9_count_152 : decode cX9_count 152 = .ok (.aload_n 0, 1) := by decide +kernel
theorem dX9_count_153 : decode cX9_count 153 = .ok (.getfield 27, 3) := by decide +kernel
theorem dX9_count_156 : decode cX9_count 156 = .ok (.aload_n 0, 1) := by decide +kernel
theorem dX9_count_157 : decode cX9_count 157 = .ok (.getfield 39, 3) := by decide +kernel
theorem dX9_count_160 : decode cX9_count 160 = .ok (.getfield 432, 3) := by decide +kernel
theorem dX9_count_163 : decode cX9_count 163 = .ok (.invokevirtual 257, 3) := by decide +kernel
theorem dX9_count_166 : decode cX9_count 166 = .ok (.ireturn, 1) := by decide +kernel
theorem dX9_count_167 : decode cX9_count 167 = .ok (.aload_n 0, 1) := by decide +kernel
theorem dX9_count_168 : decode cX9_count 168 = .ok (.getfield 43, 3) := by decide +kernel
theorem dX9_count_171 : decode cX9_count 171 = .ok (.getfield 206, 3) := by decide +kernel
theorem dX9_count_174 : decode cX9_count 174 = .ok (.ireturn, 1) := by decide +kernel
theorem dX9_count_175 : decode cX9_count 175 = .ok (.aload_n 0, 1) := by decide +kernel
theorem dX9_count_176 : decode cX9_count 176 = .ok (.getfield 50, 3) := by decide +kernel
theorem dX9_count_179 : decode cX9_count 179 = .ok (.getfield 374, 3) := by decide +kernel
theorem dX9_count_182 : decode cX9_count 182 = .ok (.ireturn, 1) := by decide +kernel
theorem dX9_count_183 : decode cX9_count 183 = .ok (.aload_n 0, 1) := by decide +kernel
theorem dX9_count_184 : decode cX9_count 184 = .ok (.getfield 10, 3) := by decide +kernel
theorem dX9_count_187 : decode cX9_count 187 = .ok (.getfield 77, 3) := by decide +kernel
theorem dX9_count_190 : decode cX9_count 190 = .ok (.ireturn, 1) := by decide +kernel
theorem dX9_count_191 : decode cX9_count 191 = .ok (.bipush (-100), 2) := by decide +kernel
theorem dX9_count_193 : decode cX9_count 193 = .ok (.ireturn, 1) := by decide +kernel
theorem dX9_row_0 : decode cX9_row 0 = .ok (.iload_n 1, 1) := by decide +kernel
theorem dX9_row_1 : decode cX9_row 1 = .ok (.ifCond .lt 14, 3) := by decide +kernel
theorem dX9_row_4 : decode cX9_row 4 = .ok (.iload_n 1, 1) := by decide +kernel
theorem dX9_row_5 : decode cX9_row 5 = .ok (.aload_n 0, 1) := by decide +kernel
theorem dX9_row_6 : decode cX9_row 6 = .ok (.getfield 50, 3) := by decide +kernel
theorem dX9_row_9 : decode cX9_row 9 = .ok (.getfield 374, 3) := by decide +kernel
theorem dX9_row_12 : decode cX9_row 12 = .ok (.if_icmp .lt 11, 3) := by decide +kernel
theorem dX9_row_15 : decode cX9_row 15 = .ok (.new 120, 3) := by decide +kernel
theorem dX9_row_18 : decode cX9_row 18 = .ok (.dup, 1) := by decide +kernel
theorem dX9_row_19 : decode cX9_row 19 = .ok (.invokespecial 122, 3) := by decide +kernel
theorem dX9_row_22 : decode cX9_row 22 = .ok (.athrow, 1) := by decide +kernel
theorem dX9_row_23 : decode cX9_row 23 = .ok (.aload_n 0, 1) := by decide +kernel
theorem dX9_row_24 : decode cX9_row 24 = .ok (.getfield 50, 3) := by decide +kernel
theorem dX9_row_27 : decode cX9_row 27 = .ok (.getfield 438, 3) := by decide +kernel
theorem dX9_row_30 : decode cX9_row 30 = .ok (.iload_n 1, 1) := by decide +kernel
theorem dX9_row_31 : decode cX9_row 31 = .ok (.iaload, 1) := by decide +kernel
theorem dX9_row_32 : decode cX9_row 32 = .ok (.ireturn, 1) := by decide +kernel
theorem dX10_sign_0 : decode cX10_sign 0 = .ok (.aload_n 0, 1) := by decide +kernel
theorem dX10_sign_1 : decode cX10_sign 1 = .ok (.iconst 0, 1) := by decide +kernel
theorem dX10_sign_2 : decode cX10_sign 2 = .ok (.putfield 87, 3) := by decide +kernel
theorem dX10_sign_5 : decode cX10_sign 5 = .ok (.aload_n 0, 1) := by decide +kernel
theorem dX10_sign_6 : decode cX10_sign 6 = .ok (.getfield 104, 3) := by decide +kernel
theorem dX10_sign_9 : decode cX10_sign 9 = .ok (.iconst 4, 1) := by decide +kernel
theorem dX10_sign_10 : decode cX10_sign 10 = .ok (.iadd, 1) := by decide +kernel
theorem dX10_sign_11 : decode cX10_sign 11 = .ok (.bipush 80, 2) := by decide +kernel
theorem dX10_sign_13 : decode cX10_sign 13 = .ok (.if_icmp .le 5, 3) := by decide +kernel
theorem dX10_sign_16 : decode cX10_sign 16 = .ok (.iconst (-1), 1) := by decide +kernel
theorem dX10_sign_17 : decode cX10_sign 17 = .ok (.ireturn, 1) := by decide +kernel
theorem dX10_sign_18 : decode cX10_sign 18 = .ok (.iconst 3, 1) := by decide +kernel
theorem dX10_sign_19 : decode cX10_sign 19 = .ok (.istore_n 2, 1) := by decide +kernel
theorem dX10_sign_20 : decode cX10_sign 20 = .ok (.iload_n 2, 1) := by decide +kernel
theorem dX10_sign_21 : decode cX10_sign 21 = .ok (.ifCond .lt 32, 3) := by decide +kernel
theorem dX10_sign_24 : decode cX10_sign 24 = .ok (.aload_n 0, 1) := by decide +kernel
theorem dX10_sign_25 : decode cX10_sign 25 = .ok (.getfield 34, 3) := by decide +kernel
theorem dX10_sign_28 : decode cX10_sign 28 = .ok (.aload_n 0, 1) := by decide +kernel
theorem dX10_sign_29 : decode cX10_sign 29 = .ok (.dup, 1) := by decide +kernel
theorem dX10_sign_30 : decode cX10_sign 30 = .ok (.getfield 104, 3) := by decide +kernel
theorem dX10_sign_33 : decode cX10_sign 33 = .ok (.dup_x1, 1) := by decide +kernel
theorem dX10_sign_34 : decode cX10_sign 34 = .ok (.iconst 1, 1) := by decide +kernel
theorem dX10_sign_35 : decode cX10_sign 35 = .ok (.iadd, 1) := by decide +kernel
theorem dX10_sign_36 : decode cX10_sign 36 = .ok (.putfield 104, 3) := by decide +kernel
theorem dX10_sign_39 : decode cX10_sign 39 = .ok (.iload_n 1, 1) := by decide +kernel
theorem dX10_sign_40 : decode cX10_sign 40 = .ok (.bipush 8, 2) := by decide +kernel
theorem dX10_sign_42 : decode cX10_sign 42 = .ok (.iload_n 2, 1) := by decide +kernel
theorem dX10_sign_43 : decode cX10_sign 43 = .ok (.imul, 1) := by decide +kernel
theorem dX10_sign_44 : decode cX10_sign 44 = .ok (.ishr, 1) := by decide +kernel
theorem dX10_sign_45 : decode cX10_sign 45 = .ok (.i2b, 1) := by decide +kernel
theorem dX10_sign_46 : decode cX10_sign 46 = .ok (.bastore, 1) := by decide +kernel
theorem dX10_sign_47 : decode cX10_sign 47 = .ok (.iinc 2 (-1), 3) := by decide +kernel
theorem dX10_sign_50 : decode cX10_sign 50 = .ok (.goto (-30), 3) := by decide +kernel
theorem dX10_sign_53 : decode cX10_sign 53 = .ok (.aload_n 0, 1) := by decide +kernel
theorem dX10_sign_54 : decode cX10_sign 54 = .ok (.getfield 104, 3) := by decide +kernel
theorem dX10_sign_57 : decode cX10_sign 57 = .ok (.ireturn, 1) := by decide +kernel
theorem dX10_in_0 : decode cX10_in 0 = .ok (.iload_n 0, 1) := by decide +kernel
theorem dX10_in_1 : decode cX10_in 1 = .ok (.iload_n 1, 1) := by decide +kernel
theorem dX10_in_2 : decode cX10_in 2 = .ok (.if_icmp .lt 12, 3) := by decide +kernel
theorem dX10_in_5 : decode cX10_in 5 = .ok (.iload_n 0, 1) := by decide +kernel
theorem dX10_in_6 : decode cX10_in 6 = .ok (.iload_n 2, 1) := by decide +kernel
theorem dX10_in_7 : decode cX10_in 7 = .ok (.if_icmp .gt 7, 3) := by decide +kernel
theorem dX10_in_10 : decode cX10_in 10 = .ok (.iconst 1, 1) := by decide +kernel
theorem dX10_in_11 : decode cX10_in 11 = .ok (.goto 4, 3) := by decide +kernel
theorem dX10_in_14 : decode cX10_in 14 = .ok (.iconst 0, 1) := by decide +kernel
theorem dX10_in_15 : decode cX10_in 15 = .ok (.ireturn, 1) := by decide +kernel
theorem dX10_end_0 : decode cX10_end 0 = .ok (.aload_n 0, 1) := by decide +kernel
theorem dX10_end_1 : decode cX10_end 1 = .ok (.iconst 0, 1) := by decide +kernel
theorem dX10_end_2 : decode cX10_end 2 = .ok (.putfield 87, 3) := by decide +kernel
theorem dX10_end_5 : decode cX10_end 5 = .ok (.iload_n 1, 1) := by decide +kernel
theorem dX10_end_6 : decode cX10_end 6 = .ok (.iconst 0, 1) := by decide +kernel
theorem dX10_end_7 : decode cX10_end 7 = .ok (.aload_n 0, 1) := by decide +kernel
theorem dX10_end_8 : decode cX10_end 8 = .ok (.getfield 104, 3) := by decide +kernel
theorem dX10_end_11 : decode cX10_end 11 = .ok (.invokestatic 97, 3) := by decide +kernel
theorem dX10_end_14 : decode cX10_end 14 = .ok (.ifCond .ne 5, 3) := by decide +kernel
theorem dX10_end_17 : decode cX10_end 17 = .ok (.iconst 0, 1) := by decide +kernel
theorem dX10_end_18 : decode cX10_end 18 = .ok (.ireturn, 1) := by decide +kernel
theorem dX10_end_19 : decode cX10_end 19 = .ok (.aload_n 0, 1) := by decide +kernel
theorem dX10_end_20 : decode cX10_end 20 = .ok (.iload_n 1, 1) := by decide +kernel
theorem dX10_end_21 : decode cX10_end 21 = .ok (.putfield 104, 3) := by decide +kernel
theorem dX10_end_24 : decode cX10_end 24 = .ok (.iconst 1, 1) := by decide +kernel
theorem dX10_end_25 : decode cX10_end 25 = .ok (.ireturn, 1) := by decide +kernel
theorem dX10_begin_0 : decode cX10_begin 0 = .ok (.aload_n 0, 1) := by decide +kernel
theorem dX10_begin_1 : decode cX10_begin 1 = .ok (.aload_n 1, 1) := by decide +kernel
theorem dX10_begin_2 : decode cX10_begin 2 = .ok (.putfield 107, 3) := by decide +kernel
theorem dX10_begin_5 : decode cX10_begin 5 = .ok (.aload_n 0, 1) := by decide +kernel
theorem dX10_begin_6 : decode cX10_begin 6 = .ok (.iload_n 2, 1) := by decide +kernel
theorem dX10_begin_7 : decode cX10_begin 7 = .ok (.putfield 110, 3) := by decide +kernel
theorem dX10_begin_10 : decode cX10_begin 10 = .ok (.aload_n 0, 1) := by decide +kernel
theorem dX10_begin_11 : decode cX10_begin 11 = .ok (.iload_n 3, 1) := by decide +kernel
theorem dX10_begin_12 : decode cX10_begin 12 = .ok (.putfield 113, 3) := by decide +kernel
theorem dX10_begin_15 : decode cX10_begin 15 = .ok (.aload_n 0, 1) := by decide +kernel
theorem dX10_begin_16 : decode cX10_begin 16 = .ok (.iconst 0, 1) := by decide +kernel
theorem dX10_begin_17 : decode cX10_begin 17 = .ok (.putfield 116, 3) := by decide +kernel
theorem dX10_begin_20 : decode cX10_begin 20 = .ok (.aload_n 0, 1) := by decide +kernel
theorem dX10_begin_21 : decode cX10_begin 21 = .ok (.iconst (-1), 1) := by decide +kernel
theorem dX10_begin_22 : decode cX10_begin 22 = .ok (.putfield 119, 3) := by decide +kernel
theorem dX10_begin_25 : decode cX10_begin 25 = .ok (.return_, 1) := by decide +kernel
theorem dX10_fine_0 : decode cX10_fine 0 = .ok (.aload_n 0, 1) := by decide +kernel
theorem dX10_fine_1 : decode cX10_fine 1 = .ok (.getfield 119, 3) := by decide +kernel
theorem dX10_fine_4 : decode cX10_fine 4 = .ok (.iconst (-1), 1) := by decide +kernel
theorem dX10_fine_5 : decode cX10_fine 5 = .ok (.if_icmp .ne 7, 3) := by decide +kernel
theorem dX10_fine_8 : decode cX10_fine 8 = .ok (.iconst 1, 1) := by decide +kernel
theorem dX10_fine_9 : decode cX10_fine 9 = .ok (.goto 4, 3) := by decide +kernel
theorem dX10_fine_12 : decode cX10_fine 12 = .ok (.iconst 0, 1) := by decide +kernel
theorem dX10_fine_13 : decode cX10_fine 13 = .ok (.ireturn, 1) := by decide +kernel
theorem dX10_here_0 : decode cX10_here 0 = .ok (.aload_n 0, 1) := by decide +kernel
theorem dX10_here_1 : decode cX10_here 1 = .ok (.getfield 116, 3) := by decide +kernel
theorem dX10_here_4 : decode cX10_here 4 = .ok (.aload_n 0, 1) := by decide +kernel
theorem dX10_here_5 : decode cX10_here 5 = .ok (.getfield 110, 3) := by decide +kernel
theorem dX10_here_8 : decode cX10_here 8 = .ok (.if_icmp .ge 30, 3) := by decide +kernel
theorem dX10_here_11 : decode cX10_here 11 = .ok (.aload_n 0, 1) := by decide +kernel
theorem dX10_here_12 : decode cX10_here 12 = .ok (.getfield 116, 3) := by decide +kernel
theorem dX10_here_15 : decode cX10_here 15 = .ok (.aload_n 0, 1) := by decide +kernel
theorem dX10_here_16 : decode cX10_here 16 = .ok (.getfield 113, 3) := by decide +kernel
theorem dX10_here_19 : decode cX10_here 19 = .ok (.if_icmp .ge 19, 3) := by decide +kernel
theorem dX10_here_22 : decode cX10_here 22 = .ok (.aload_n 0, 1) := by decide +kernel
theorem dX10_here_23 : decode cX10_here 23 = .ok (.getfield 107, 3) := by decide +kernel
theorem dX10_here_26 : decode cX10_here 26 = .ok (.aload_n 0, 1) := by decide +kernel
theorem dX10_here_27 : decode cX10_here 27 = .ok (.getfield 116, 3) := by decide +kernel
theorem dX10_here_30 : decode cX10_here 30 = .ok (.baload, 1) := by decide +kernel
theorem dX10_here_31 : decode cX10_here 31 = .ok (.sipush 255, 3) := by decide +kernel
theorem dX10_here_34 : decode cX10_here 34 = .ok (.iand, 1) := by decide +kernel
theorem dX10_here_35 : decode cX10_here 35 = .ok (.goto 4, 3) := by decide +kernel
theorem dX10_here_38 : decode cX10_here 38 = .ok (.iconst (-1), 1) := by decide +kernel
theorem dX10_here_39 : decode cX10_here 39 = .ok (.ireturn, 1) := by decide +kernel
theorem dX10_fault_0 : decode cX10_fault 0 = .ok (.aload_n 0, 1) := by decide +kernel
theorem dX10_fault_1 : decode cX10_fault 1 = .ok (.invokevirtual 122, 3) := by decide +kernel
theorem dX10_fault_4 : decode cX10_fault 4 = .ok (.ifCond .eq 8, 3) := by decide +kernel
theorem dX10_fault_7 : decode cX10_fault 7 = .ok (.aload_n 0, 1) := by decide +kernel
theorem dX10_fault_8 : decode cX10_fault 8 = .ok (.iload_n 1, 1) := by decide +kernel
theorem dX10_fault_9 : decode cX10_fault 9 = .ok (.putfield 119, 3) := by decide +kernel
theorem dX10_fault_12 : decode cX10_fault 12 = .ok (.return_, 1) := by decide +kernel
theorem dX10_number_0 : decode cX10_number 0 = .ok (.aload_n 0, 1) := by decide +kernel
theorem dX10_number_1 : decode cX10_number 1 = .ok (.invokevirtual 122, 3) := by decide +kernel
theorem dX10_number_4 : decode cX10_number 4 = .ok (.ifCond .ne 5, 3) := by decide +kernel
theorem dX10_number_7 : decode cX10_number 7 = .ok (.iconst 0, 1) := by decide +kernel
theorem dX10_number_8 : decode cX10_number 8 = .ok (.ireturn, 1) := by decide +kernel
theorem dX10_number_9 : decode cX10_number 9 = .ok (.aload_n 0, 1) := by decide +kernel
theorem dX10_number_10 : decode cX10_number 10 = .ok (.getfield 116, 3) := by decide +kernel
theorem dX10_number_13 : decode cX10_number 13 = .ok (.istore_n 2, 1) := by decide +kernel
theorem dX10_number_14 : decode cX10_number 14 = .ok (.iconst 0, 1) := by decide +kernel
theorem dX10_number_15 : decode cX10_number 15 = .ok (.istore_n 3, 1) := by decide +kernel
theorem dX10_number_16 : decode cX10_number 16 = .ok (.aload_n 0, 1) := by decide +kernel
theorem dX10_number_17 : decode cX10_number 17 = .ok (.getfield 116, 3) := by decide +kernel
theorem dX10_number_20 : decode cX10_number 20 = .ok (.iload_n 2, 1) := by decide +kernel
theorem dX10_number_21 : decode cX10_number 21 = .ok (.iload_n 1, 1) := by decide +kernel
theorem dX10_number_22 : decode cX10_number 22 = .ok (.iadd, 1) := by decide +kernel
theorem dX10_number_23 : decode cX10_number 23 = .ok (.if_icmp .ge 43, 3) := by decide +kernel
theorem dX10_number_26 : decode cX10_number 26 = .ok (.aload_n 0, 1) := by decide +kernel
theorem dX10_number_27 : decode cX10_number 27 = .ok (.invokevirtual 126, 3) := by decide +kernel
theorem dX10_number_30 : decode cX10_number 30 = .ok (.bipush 48, 2) := by decide +kernel
theorem dX10_number_32 : decode cX10_number 32 = .ok (.bipush 57, 2) := by decide +kernel
theorem dX10_number_34 : decode cX10_number 34 = .ok (.invokestatic 97, 3) := by decide +kernel
theorem dX10_number_37 : decode cX10_number 37 = .ok (.ifCond .eq 29, 3) := by decide +kernel
theorem dX10_number_40 : decode cX10_number 40 = .ok (.bipush 10, 2) := by decide +kernel
theorem dX10_number_42 : decode cX10_number 42 = .ok (.iload_n 3, 1) := by decide +kernel
theorem dX10_number_43 : decode cX10_number 43 = .ok (.imul, 1) := by decide +kernel
theorem dX10_number_44 : decode cX10_number 44 = .ok (.aload_n 0, 1) := by decide +kernel
theorem dX10_number_45 : decode cX10_number 45 = .ok (.invokevirtual 126, 3) := by decide +kernel
theorem dX10_number_48 : decode cX10_number 48 = .ok (.iadd, 1) := by decide +kernel
theorem dX10_number_49 : decode cX10_number 49 = .ok (.bipush 48, 2) := by decide +kernel
theorem dX10_number_51 : decode cX10_number 51 = .ok (.isub, 1) := by decide +kernel
theorem dX10_number_52 : decode cX10_number 52 = .ok (.istore_n 3, 1) := by decide +kernel
theorem dX10_number_53 : decode cX10_number 53 = .ok (.aload_n 0, 1) := by decide +kernel
theorem dX10_number_54 : decode cX10_number 54 = .ok (.dup, 1) := by decide +kernel
theorem dX10_number_55 : decode cX10_number 55 = .ok (.getfield 116, 3) := by decide +kernel
theorem dX10_number_58 : decode cX10_number 58 = .ok (.iconst 1, 1) := by decide +kernel
theorem dX10_number_59 : decode cX10_number 59 = .ok (.iadd, 1) := by decide +kernel
theorem dX10_number_60 : decode cX10_number 60 = .ok (.putfield 116, 3) := by decide +kernel
theorem dX10_number_63 : decode cX10_number 63 = .ok (.goto (-47), 3) := by decide +kernel
theorem dX10_number_66 : decode cX10_number 66 = .ok (.aload_n 0, 1) := by decide +kernel
theorem dX10_number_67 : decode cX10_number 67 = .ok (.getfield 116, 3) := by decide +kernel
theorem dX10_number_70 : decode cX10_number 70 = .ok (.iload_n 2, 1) := by decide +kernel
theorem dX10_number_71 : decode cX10_number 71 = .ok (.if_icmp .ne 11, 3) := by decide +kernel
theorem dX10_number_74 : decode cX10_number 74 = .ok (.aload_n 0, 1) := by decide +kernel
theorem dX10_number_75 : decode cX10_number 75 = .ok (.aload_n 0, 1) := by decide +kernel
theorem dX10_number_76 : decode cX10_number 76 = .ok (.getfield 116, 3) := by decide +kernel
theorem dX10_number_79 : decode cX10_number 79 = .ok (.invokevirtual 134, 3) := by decide +kernel
theorem dX10_number_82 : decode cX10_number 82 = .ok (.iload_n 3, 1) := by decide +kernel
theorem dX10_number_83 : decode cX10_number 83 = .ok (.ireturn, 1) := by decide +kernel
theorem dX10_passes_0 : decode cX10_passes 0 = .ok (.aload_n 0, 1) := by decide +kernel
theorem dX10_passes_1 : decode cX10_passes 1 = .ok (.invokevirtual 122, 3) := by decide +kernel
theorem dX10_passes_4 : decode cX10_passes 4 = .ok (.ifCond .eq 11, 3) := by decide +kernel
theorem dX10_passes_7 : decode cX10_passes 7 = .ok (.aload_n 0, 1) := by decide +kernel
theorem dX10_passes_8 : decode cX10_passes 8 = .ok (.invokevirtual 126, 3) := by decide +kernel
theorem dX10_passes_11 : decode cX10_passes 11 = .ok (.iload_n 1, 1) := by decide +kernel
theorem dX10_passes_12 : decode cX10_passes 12 = .ok (.if_icmp .eq 5, 3) := by decide +kernel
theorem dX10_passes_15 : decode cX10_passes 15 = .ok (.iconst 0, 1) := by decide +kernel
theorem dX10_passes_16 : decode cX10_passes 16 = .ok (.ireturn, 1) := by decide +kernel
theorem dX10_passes_17 : decode cX10_passes 17 = .ok (.aload_n 0, 1) := by decide +kernel
theorem dX10_passes_18 : decode cX10_passes 18 = .ok (.dup, 1) := by decide +kernel
theorem dX10_passes_19 : decode cX10_passes 19 = .ok (.getfield 116, 3) := by decide +kernel
theorem dX10_passes_22 : decode cX10_passes 22 = .ok (.iconst 1, 1) := by decide +kernel
theorem dX10_passes_23 : decode cX10_passes 23 = .ok (.iadd, 1) := by decide +kernel
theorem dX10_passes_24 : decode cX10_passes 24 = .ok (.putfield 116, 3) := by decide +kernel
theorem dX10_passes_27 : decode cX10_passes 27 = .ok (.iconst 1, 1) := by decide +kernel
theorem dX10_passes_28 : decode cX10_passes 28 = .ok (.ireturn, 1) := by decide +kernel
theorem dX10_need_0 : decode cX10_need 0 = .ok (.aload_n 0, 1) := by decide +kernel
theorem dX10_need_1 : decode cX10_need 1 = .ok (.iload_n 1, 1) := by decide +kernel
theorem dX10_need_2 : decode cX10_need 2 = .ok (.invokevirtual 130, 3) := by decide +kernel
theorem dX10_need_5 : decode cX10_need 5 = .ok (.ifCond .ne 11, 3) := by decide +kernel
theorem dX10_need_8 : decode cX10_need 8 = .ok (.aload_n 0, 1) := by decide +kernel
theorem dX10_need_9 : decode cX10_need 9 = .ok (.aload_n 0, 1) := by decide +kernel
theorem dX10_need_10 : decode cX10_need 10 = .ok (.getfield 116, 3) := by decide +kernel
theorem dX10_need_13 : decode cX10_need 13 = .ok (.invokevirtual 134, 3) := by decide +kernel
theorem dX10_need_16 : decode cX10_need 16 = .ok (.return_, 1) := by decide +kernel
theorem dX10_readLine_0 : decode cX10_readLine 0 = .ok (.aload_n 0, 1) := by decide +kernel
theorem dX10_readLine_1 : decode cX10_readLine 1 = .ok (.invokevirtual 126, 3) := by decide +kernel
theorem dX10_readLine_4 : decode cX10_readLine 4 = .ok (.bipush 102, 2) := by decide +kernel
theorem dX10_readLine_6 : decode cX10_readLine 6 = .ok (.if_icmp .ne 129, 3) := by decide +kernel
theorem dX10_readLine_9 : decode cX10_readLine 9 = .ok (.aload_n 0, 1) := by decide +kernel
theorem dX10_readLine_10 : decode cX10_readLine 10 = .ok (.getfield 94, 3) := by decide +kernel
theorem dX10_readLine_13 : decode cX10_readLine 13 = .ok (.aload_n 0, 1) := by decide +kernel
theorem dX10_readLine_14 : decode cX10_readLine 14 = .ok (.getfield 138, 3) := by decide +kernel
theorem dX10_readLine_17 : decode cX10_readLine 17 = .ok (.iadd, 1) := by decide +kernel
theorem dX10_readLine_18 : decode cX10_readLine 18 = .ok (.bipush 16, 2) := by decide +kernel
theorem dX10_readLine_20 : decode cX10_readLine 20 = .ok (.if_icmp .ge 115, 3) := by decide +kernel
theorem dX10_readLine_23 : decode cX10_readLine 23 = .ok (.iconst 4, 1) := by decide +kernel
theorem dX10_readLine_24 : decode cX10_readLine 24 = .ok (.aload_n 0, 1) := by decide +kernel
theorem dX10_readLine_25 : decode cX10_readLine 25 = .ok (.getfield 138, 3) := by decide +kernel
theorem dX10_readLine_28 : decode cX10_readLine 28 = .ok (.imul, 1) := by decide +kernel
theorem dX10_readLine_29 : decode cX10_readLine 29 = .ok (.istore_n 1, 1) := by decide +kernel
theorem dX10_readLine_30 : decode cX10_readLine 30 = .ok (.aload_n 0, 1) := by decide +kernel
theorem dX10_readLine_31 : decode cX10_readLine 31 = .ok (.dup, 1) := by decide +kernel
theorem dX10_readLine_32 : decode cX10_readLine 32 = .ok (.getfield 116, 3) := by decide +kernel
theorem dX10_readLine_35 : decode cX10_readLine 35 = .ok (.iconst 1, 1) := by decide +kernel
theorem dX10_readLine_36 : decode cX10_readLine 36 = .ok (.iadd, 1) := by decide +kernel
theorem dX10_readLine_37 : decode cX10_readLine 37 = .ok (.putfield 116, 3) := by decide +kernel
theorem dX10_readLine_40 : decode cX10_readLine 40 = .ok (.aload_n 0, 1) := by decide +kernel
theorem dX10_readLine_41 : decode cX10_readLine 41 = .ok (.getfield 41, 3) := by decide +kernel
theorem dX10_readLine_44 : decode cX10_readLine 44 = .ok (.iload_n 1, 1) := by decide +kernel
theorem dX10_readLine_45 : decode cX10_readLine 45 = .ok (.aload_n 0, 1) := by decide +kernel
theorem dX10_readLine_46 : decode cX10_readLine 46 = .ok (.iconst 2, 1) := by decide +kernel
theorem dX10_readLine_47 : decode cX10_readLine 47 = .ok (.invokevirtual 141, 3) := by decide +kernel
theorem dX10_readLine_50 : decode cX10_readLine 50 = .ok (.iastore, 1) := by decide +kernel
theorem dX10_readLine_51 : decode cX10_readLine 51 = .ok (.aload_n 0, 1) := by decide +kernel
theorem dX10_readLine_52 : decode cX10_readLine 52 = .ok (.bipush 44, 2) := by decide +kernel
theorem dX10_readLine_54 : decode cX10_readLine 54 = .ok (.invokevirtual 145, 3) := by decide +kernel
theorem dX10_readLine_57 : decode cX10_readLine 57 = .ok (.aload_n 0, 1) := by decide +kernel
theorem dX10_readLine_58 : decode cX10_readLine 58 = .ok (.getfield 41, 3) := by decide +kernel
theorem dX10_readLine_61 : decode cX10_readLine 61 = .ok (.iload_n 1, 1) := by decide +kernel
theorem dX10_readLine_62 : decode cX10_readLine 62 = .ok (.iconst 1, 1) := by decide +kernel
theorem dX10_readLine_63 : decode cX10_readLine 63 = .ok (.iadd, 1) := by decide +kernel
theorem dX10_readLine_64 : decode cX10_readLine 64 = .ok (.aload_n 0, 1) := by decide +kernel
theorem dX10_readLine_65 : decode cX10_readLine 65 = .ok (.iconst 2, 1) := by decide +kernel
theorem dX10_readLine_66 : decode cX10_readLine 66 = .ok (.invokevirtual 141, 3) := by decide +kernel
theorem dX10_readLine_69 : decode cX10_readLine 69 = .ok (.iastore, 1) := by decide +kernel
theorem dX10_readLine_70 : decode cX10_readLine 70 = .ok (.aload_n 0, 1) := by decide +kernel
theorem dX10_readLine_71 : decode cX10_readLine 71 = .ok (.getfield 41, 3) := by decide +kernel
theorem dX10_readLine_74 : decode cX10_readLine 74 = .ok (.iload_n 1, 1) := by decide +kernel
theorem dX10_readLine_75 : decode cX10_readLine 75 = .ok (.iconst 2, 1) := by decide +kernel
theorem dX10_readLine_76 : decode cX10_readLine 76 = .ok (.iadd, 1) := by decide +kernel
theorem dX10_readLine_77 : decode cX10_readLine 77 = .ok (.aload_n 0, 1) := by decide +kernel
theorem dX10_readLine_78 : decode cX10_readLine 78 = .ok (.bipush 42, 2) := by decide +kernel
theorem dX10_readLine_80 : decode cX10_readLine 80 = .ok (.invokevirtual 130, 3) := by decide +kernel
theorem dX10_readLine_83 : decode cX10_readLine 83 = .ok (.ifCond .eq 11, 3) := by decide +kernel
theorem dX10_readLine_86 : decode cX10_readLine 86 = .ok (.aload_n 0, 1) := by decide +kernel
theorem dX10_readLine_87 : decode cX10_readLine 87 = .ok (.iconst 1, 1) := by decide +kernel
theorem dX10_readLine_88 : decode cX10_readLine 88 = .ok (.invokevirtual 141, 3) := by decide +kernel
theorem dX10_readLine_91 : decode cX10_readLine 91 = .ok (.goto 4, 3) := by decide +kernel
theorem dX10_readLine_94 : decode cX10_readLine 94 = .ok (.iconst 1, 1) := by decide +kernel
theorem dX10_readLine_95 : decode cX10_readLine 95 = .ok (.iastore, 1) := by decide +kernel
theorem dX10_readLine_96 : decode cX10_readLine 96 = .ok (.aload_n 0, 1) := by decide +kernel
theorem dX10_readLine_97 : decode cX10_readLine 97 = .ok (.getfield 41, 3) := by decide +kernel
theorem dX10_readLine_100 : decode cX10_readLine 100 = .ok (.iload_n 1, 1) := by decide +kernel
theorem dX10_readLine_101 : decode cX10_readLine 101 = .ok (.iconst 3, 1) := by decide +kernel
theorem dX10_readLine_102 : decode cX10_readLine 102 = .ok (.iadd, 1) := by decide +kernel
theorem dX10_readLine_103 : decode cX10_readLine 103 = .ok (.aload_n 0, 1) := by decide +kernel
theorem dX10_readLine_104 : decode cX10_readLine 104 = .ok (.bipush 64, 2) := by decide +kernel
theorem dX10_readLine_106 : decode cX10_readLine 106 = .ok (.invokevirtual 130, 3) := by decide +kernel
theorem dX10_readLine_109 : decode cX10_readLine 109 = .ok (.ifCond .eq 11, 3) := by decide +kernel
theorem dX10_readLine_112 : decode cX10_readLine 112 = .ok (.aload_n 0, 1) := by decide +kernel
theorem dX10_readLine_113 : decode cX10_readLine 113 = .ok (.iconst 1, 1) := by decide +kernel
theorem dX10_readLine_114 : decode cX10_readLine 114 = .ok (.invokevirtual 141, 3) := by decide +kernel
theorem dX10_readLine_117 : decode cX10_readLine 117 = .ok (.goto 4, 3) := by decide +kernel
theorem dX10_readLine_120 : decode cX10_readLine 120 = .ok (.iconst 0, 1) := by decide +kernel
theorem dX10_readLine_121 : decode cX10_readLine 121 = .ok (.iastore, 1) := by decide +kernel
theorem dX10_readLine_122 : decode cX10_readLine 122 = .ok (.aload_n 0, 1) := by decide +kernel
theorem dX10_readLine_123 : decode cX10_readLine 123 = .ok (.dup, 1) := by decide +kernel
theorem dX10_readLine_124 : decode cX10_readLine 124 = .ok (.getfield 138, 3) := by decide +kernel
theorem dX10_readLine_127 : decode cX10_readLine 127 = .ok (.iconst 1, 1) := by decide +kernel
theorem dX10_readLine_128 : decode cX10_readLine 128 = .ok (.iadd, 1) := by decide +kernel
theorem dX10_readLine_129 : decode cX10_readLine 129 = .ok (.putfield 138, 3) := by decide +kernel
theorem dX10_readLine_132 : decode cX10_readLine 132 = .ok (.goto 94, 3) := by decide +kernel
theorem dX10_readLine_135 : decode cX10_readLine 135 = .ok (.aload_n 0, 1) := by decide +kernel
theorem dX10_readLine_136 : decode cX10_readLine 136 = .ok (.invokevirtual 126, 3) := by decide +kernel
theorem dX10_readLine_139 : decode cX10_readLine 139 = .ok (.bipush 115, 2) := by decide +kernel
theorem dX10_readLine_141 : decode cX10_readLine 141 = .ok (.if_icmp .ne 77, 3) := by decide +kernel
theorem dX10_readLine_144 : decode cX10_readLine 144 = .ok (.aload_n 0, 1) := by decide +kernel
theorem dX10_readLine_145 : decode cX10_readLine 145 = .ok (.getfield 101, 3) := by decide +kernel
theorem dX10_readLine_148 : decode cX10_readLine 148 = .ok (.aload_n 0, 1) := by decide +kernel
theorem dX10_readLine_149 : decode cX10_readLine 149 = .ok (.getfield 149, 3) := by decide +kernel
theorem dX10_readLine_152 : decode cX10_readLine 152 = .ok (.iadd, 1) := by decide +kernel
theorem dX10_readLine_153 : decode cX10_readLine 153 = .ok (.bipush 8, 2) := by decide +kernel
theorem dX10_readLine_155 : decode cX10_readLine 155 = .ok (.if_icmp .ge 63, 3) := by decide +kernel
theorem dX10_readLine_158 : decode cX10_readLine 158 = .ok (.iconst 2, 1) := by decide +kernel
theorem dX10_readLine_159 : decode cX10_readLine 159 = .ok (.aload_n 0, 1) := by decide +kernel
theorem dX10_readLine_160 : decode cX10_readLine 160 = .ok (.getfield 149, 3) := by decide +kernel
theorem dX10_readLine_163 : decode cX10_readLine 163 = .ok (.imul, 1) := by decide +kernel
theorem dX10_readLine_164 : decode cX10_readLine 164 = .ok (.istore_n 1, 1) := by decide +kernel
theorem dX10_readLine_165 : decode cX10_readLine 165 = .ok (.aload_n 0, 1) := by decide +kernel
theorem dX10_readLine_166 : decode cX10_readLine 166 = .ok (.dup, 1) := by decide +kernel
theorem dX10_readLine_167 : decode cX10_readLine 167 = .ok (.getfield 116, 3) := by decide +kernel
theorem dX10_readLine_170 : decode cX10_readLine 170 = .ok (.iconst 1, 1) := by decide +kernel
theorem dX10_readLine_171 : decode cX10_readLine 171 = .ok (.iadd, 1) := by decide +kernel
theorem dX10_readLine_172 : decode cX10_readLine 172 = .ok (.putfield 116, 3) := by decide +kernel
theorem dX10_readLine_175 : decode cX10_readLine 175 = .ok (.aload_n 0, 1) := by decide +kernel
theorem dX10_readLine_176 : decode cX10_readLine 176 = .ok (.getfield 44, 3) := by decide +kernel
theorem dX10_readLine_179 : decode cX10_readLine 179 = .ok (.iload_n 1, 1) := by decide +kernel
theorem dX10_readLine_180 : decode cX10_readLine 180 = .ok (.aload_n 0, 1) := by decide +kernel
theorem dX10_readLine_181 : decode cX10_readLine 181 = .ok (.iconst 2, 1) := by decide +kernel
theorem dX10_readLine_182 : decode cX10_readLine 182 = .ok (.invokevirtual 141, 3) := by decide +kernel
theorem dX10_readLine_185 : decode cX10_readLine 185 = .ok (.iastore, 1) := by decide +kernel
theorem dX10_readLine_186 : decode cX10_readLine 186 = .ok (.aload_n 0, 1) := by decide +kernel
theorem dX10_readLine_187 : decode cX10_readLine 187 = .ok (.bipush 44, 2) := by decide +kernel
theorem dX10_readLine_189 : decode cX10_readLine 189 = .ok (.invokevirtual 145, 3) := by decide +kernel
theorem dX10_readLine_192 : decode cX10_readLine 192 = .ok (.aload_n 0, 1) := by decide +kernel
theorem dX10_readLine_193 : decode cX10_readLine 193 = .ok (.getfield 44, 3) := by decide +kernel
theorem dX10_readLine_196 : decode cX10_readLine 196 = .ok (.iload_n 1, 1) := by decide +kernel
theorem dX10_readLine_197 : decode cX10_readLine 197 = .ok (.iconst 1, 1) := by decide +kernel
theorem dX10_readLine_198 : decode cX10_readLine 198 = .ok (.iadd, 1) := by decide +kernel
theorem dX10_readLine_199 : decode cX10_readLine 199 = .ok (.aload_n 0, 1) := by decide +kernel
theorem dX10_readLine_200 : decode cX10_readLine 200 = .ok (.iconst 2, 1) := by decide +kernel
theorem dX10_readLine_201 : decode cX10_readLine 201 = .ok (.invokevirtual 141, 3) := by decide +kernel
theorem dX10_readLine_204 : decode cX10_readLine 204 = .ok (.iastore, 1) := by decide +kernel
theorem dX10_readLine_205 : decode cX10_readLine 205 = .ok (.aload_n 0, 1) := by decide +kernel
theorem dX10_readLine_206 : decode cX10_readLine 206 = .ok (.dup, 1) := by decide +kernel
theorem dX10_readLine_207 : decode cX10_readLine 207 = .ok (.getfield 149, 3) := by decide +kernel
theorem dX10_readLine_210 : decode cX10_readLine 210 = .ok (.iconst 1, 1) := by decide +kernel
theorem dX10_readLine_211 : decode cX10_readLine 211 = .ok (.iadd, 1) := by decide +kernel
theorem dX10_readLine_212 : decode cX10_readLine 212 = .ok (.putfield 149, 3) := by decide +kernel
theorem dX10_readLine_215 : decode cX10_readLine 215 = .ok (.goto 11, 3) := by decide +kernel
theorem dX10_readLine_218 : decode cX10_readLine 218 = .ok (.aload_n 0, 1) := by decide +kernel
theorem dX10_readLine_219 : decode cX10_readLine 219 = .ok (.aload_n 0, 1) := by decide +kernel
theorem dX10_readLine_220 : decode cX10_readLine 220 = .ok (.getfield 116, 3) := by decide +kernel
theorem dX10_readLine_223 : decode cX10_readLine 223 = .ok (.invokevirtual 134, 3) := by decide +kernel
theorem dX10_readLine_226 : decode cX10_readLine 226 = .ok (.return_, 1) := by decide +kernel
theorem dX10_orchard_0 : decode cX10_orchard 0 = .ok (.aload_n 0, 1) := by decide +kernel
theorem dX10_orchard_1 : decode cX10_orchard 1 = .ok (.iconst 0, 1) := by decide +kernel
theorem dX10_orchard_2 : decode cX10_orchard 2 = .ok (.putfield 87, 3) := by decide +kernel
theorem dX10_orchard_5 : decode cX10_orchard 5 = .ok (.aload_n 0, 1) := by decide +kernel
theorem dX10_orchard_6 : decode cX10_orchard 6 = .ok (.aload_n 0, 1) := by decide +kernel
theorem dX10_orchard_7 : decode cX10_orchard 7 = .ok (.getfield 34, 3) := by decide +kernel
theorem dX10_orchard_10 : decode cX10_orchard 10 = .ok (.aload_n 0, 1) := by decide +kernel
theorem dX10_orchard_11 : decode cX10_orchard 11 = .ok (.getfield 104, 3) := by decide +kernel
theorem dX10_orchard_14 : decode cX10_orchard 14 = .ok (.bipush 76, 2) := by decide +kernel
theorem dX10_orchard_16 : decode cX10_orchard 16 = .ok (.invokevirtual 152, 3) := by decide +kernel
theorem dX10_orchard_19 : decode cX10_orchard 19 = .ok (.aload_n 0, 1) := by decide +kernel
theorem dX10_orchard_20 : decode cX10_orchard 20 = .ok (.iconst 0, 1) := by decide +kernel
theorem dX10_orchard_21 : decode cX10_orchard 21 = .ok (.putfield 104, 3) := by decide +kernel
theorem dX10_orchard_24 : decode cX10_orchard 24 = .ok (.aload_n 0, 1) := by decide +kernel
theorem dX10_orchard_25 : decode cX10_orchard 25 = .ok (.getfield 110, 3) := by decide +kernel
theorem dX10_orchard_28 : decode cX10_orchard 28 = .ok (.ifCond .ne 5, 3) := by decide +kernel
theorem dX10_orchard_31 : decode cX10_orchard 31 = .ok (.iconst 0, 1) := by decide +kernel
theorem dX10_orchard_32 : decode cX10_orchard 32 = .ok (.ireturn, 1) := by decide +kernel
theorem dX10_orchard_33 : decode cX10_orchard 33 = .ok (.aload_n 0, 1) := by decide +kernel
theorem dX10_orchard_34 : decode cX10_orchard 34 = .ok (.iconst 0, 1) := by decide +kernel
theorem dX10_orchard_35 : decode cX10_orchard 35 = .ok (.putfield 138, 3) := by decide +kernel
theorem dX10_orchard_38 : decode cX10_orchard 38 = .ok (.aload_n 0, 1) := by decide +kernel
theorem dX10_orchard_39 : decode cX10_orchard 39 = .ok (.iconst 0, 1) := by decide +kernel
theorem dX10_orchard_40 : decode cX10_orchard 40 = .ok (.putfield 149, 3) := by decide +kernel
theorem dX10_orchard_43 : decode cX10_orchard 43 = .ok (.iconst 1, 1) := by decide +kernel
theorem dX10_orchard_44 : decode cX10_orchard 44 = .ok (.istore_n 1, 1) := by decide +kernel
theorem dX10_orchard_45 : decode cX10_orchard 45 = .ok (.iload_n 1, 1) := by decide +kernel
theorem dX10_orchard_46 : decode cX10_orchard 46 = .ok (.ifCond .eq 24, 3) := by decide +kernel
theorem dX10_orchard_49 : decode cX10_orchard 49 = .ok (.aload_n 0, 1) := by decide +kernel
theorem dX10_orchard_50 : decode cX10_orchard 50 = .ok (.invokevirtual 122, 3) := by decide +kernel
theorem dX10_orchard_53 : decode cX10_orchard 53 = .ok (.ifCond .eq 17, 3) := by decide +kernel
theorem dX10_orchard_56 : decode cX10_orchard 56 = .ok (.aload_n 0, 1) := by decide +kernel
theorem dX10_orchard_57 : decode cX10_orchard 57 = .ok (.invokevirtual 156, 3) := by decide +kernel
theorem dX10_orchard_60 : decode cX10_orchard 60 = .ok (.aload_n 0, 1) := by decide +kernel
theorem dX10_orchard_61 : decode cX10_orchard 61 = .ok (.bipush 59, 2) := by decide +kernel
theorem dX10_orchard_63 : decode cX10_orchard 63 = .ok (.invokevirtual 130, 3) := by decide +kernel
theorem dX10_orchard_66 : decode cX10_orchard 66 = .ok (.istore_n 1, 1) := by decide +kernel
theorem dX10_orchard_67 : decode cX10_orchard 67 = .ok (.goto (-22), 3) := by decide +kernel
theorem dX10_orchard_70 : decode cX10_orchard 70 = .ok (.aload_n 0, 1) := by decide +kernel
theorem dX10_orchard_71 : decode cX10_orchard 71 = .ok (.getfield 116, 3) := by decide +kernel
theorem dX10_orchard_74 : decode cX10_orchard 74 = .ok (.aload_n 0, 1) := by decide +kernel
theorem dX10_orchard_75 : decode cX10_orchard 75 = .ok (.getfield 110, 3) := by decide +kernel
theorem dX10_orchard_78 : decode cX10_orchard 78 = .ok (.if_icmp .ge 11, 3) := by decide +kernel
theorem dX10_orchard_81 : decode cX10_orchard 81 = .ok (.aload_n 0, 1) := by decide +kernel
theorem dX10_orchard_82 : decode cX10_orchard 82 = .ok (.aload_n 0, 1) := by decide +kernel
theorem dX10_orchard_83 : decode cX10_orchard 83 = .ok (.getfield 116, 3) := by decide +kernel
theorem dX10_orchard_86 : decode cX10_orchard 86 = .ok (.invokevirtual 134, 3) := by decide +kernel
theorem dX10_orchard_89 : decode cX10_orchard 89 = .ok (.aload_n 0, 1) := by decide +kernel
theorem dX10_orchard_90 : decode cX10_orchard 90 = .ok (.invokevirtual 122, 3) := by decide +kernel
theorem dX10_orchard_93 : decode cX10_orchard 93 = .ok (.ifCond .ne 10, 3) := by decide +kernel
theorem dX10_orchard_96 : decode cX10_orchard 96 = .ok (.iconst (-1), 1) := by decide +kernel
theorem dX10_orchard_97 : decode cX10_orchard 97 = .ok (.aload_n 0, 1) := by decide +kernel
theorem dX10_orchard_98 : decode cX10_orchard 98 = .ok (.getfield 119, 3) := by decide +kernel
theorem dX10_orchard_101 : decode cX10_orchard 101 = .ok (.isub, 1) := by decide +kernel
theorem dX10_orchard_102 : decode cX10_orchard 102 = .ok (.ireturn, 1) := by decide +kernel
theorem dX10_orchard_103 : decode cX10_orchard 103 = .ok (.iconst 0, 1) := by decide +kernel
theorem dX10_orchard_104 : decode cX10_orchard 104 = .ok (.istore_n 2, 1) := by decide +kernel
theorem dX10_orchard_105 : decode cX10_orchard 105 = .ok (.iload_n 2, 1) := by decide +kernel
theorem dX10_orchard_106 : decode cX10_orchard 106 = .ok (.aload_n 0, 1) := by decide +kernel
theorem dX10_orchard_107 : decode cX10_orchard 107 = .ok (.getfield 138, 3) := by decide +kernel
theorem dX10_orchard_110 : decode cX10_orchard 110 = .ok (.if_icmp .ge 103, 3) := by decide +kernel
theorem dX10_orchard_113 : decode cX10_orchard 113 = .ok (.aload_n 0, 1) := by decide +kernel
theorem dX10_orchard_114 : decode cX10_orchard 114 = .ok (.getfield 13, 3) := by decide +kernel
theorem dX10_orchard_117 : decode cX10_orchard 117 = .ok (.aload_n 0, 1) := by decide +kernel
theorem dX10_orchard_118 : decode cX10_orchard 118 = .ok (.getfield 94, 3) := by decide +kernel
theorem dX10_orchard_121 : decode cX10_orchard 121 = .ok (.aload_n 0, 1) := by decide +kernel
theorem dX10_orchard_122 : decode cX10_orchard 122 = .ok (.getfield 41, 3) := by decide +kernel
theorem dX10_orchard_125 : decode cX10_orchard 125 = .ok (.iconst 4, 1) := by decide +kernel
theorem dX10_orchard_126 : decode cX10_orchard 126 = .ok (.iload_n 2, 1) := by decide +kernel
theorem dX10_orchard_127 : decode cX10_orchard 127 = .ok (.imul, 1) := by decide +kernel
theorem dX10_orchard_128 : decode cX10_orchard 128 = .ok (.iaload, 1) := by decide +kernel
theorem dX10_orchard_129 : decode cX10_orchard 129 = .ok (.iastore, 1) := by decide +kernel
theorem dX10_orchard_130 : decode cX10_orchard 130 = .ok (.aload_n 0, 1) := by decide +kernel
theorem dX10_orchard_131 : decode cX10_orchard 131 = .ok (.getfield 16, 3) := by decide +kernel
theorem dX10_orchard_134 : decode cX10_orchard 134 = .ok (.aload_n 0, 1) := by decide +kernel
theorem dX10_orchard_135 : decode cX10_orchard 135 = .ok (.getfield 94, 3) := by decide +kernel
theorem dX10_orchard_138 : decode cX10_orchard 138 = .ok (.aload_n 0, 1) := by decide +kernel
theorem dX10_orchard_139 : decode cX10_orchard 139 = .ok (.getfield 41, 3) := by decide +kernel
theorem dX10_orchard_142 : decode cX10_orchard 142 = .ok (.iconst 4, 1) := by decide +kernel
theorem dX10_orchard_143 : decode cX10_orchard 143 = .ok (.iload_n 2, 1) := by decide +kernel
theorem dX10_orchard_144 : decode cX10_orchard 144 = .ok (.imul, 1) := by decide +kernel
theorem dX10_orchard_145 : decode cX10_orchard 145 = .ok (.iconst 1, 1) := by decide +kernel
theorem dX10_orchard_146 : decode cX10_orchard 146 = .ok (.iadd, 1) := by decide +kernel
theorem dX10_orchard_147 : decode cX10_orchard 147 = .ok (.iaload, 1) := by decide +kernel
theorem dX10_orchard_148 : decode cX10_orchard 148 = .ok (.iastore, 1) := by decide +kernel
theorem dX10_orchard_149 : decode cX10_orchard 149 = .ok (.aload_n 0, 1) := by decide +kernel
theorem dX10_orchard_150 : decode cX10_orchard 150 = .ok (.getfield 19, 3) := by decide +kernel
theorem dX10_orchard_153 : decode cX10_orchard 153 = .ok (.aload_n 0, 1) := by decide +kernel
theorem dX10_orchard_154 : decode cX10_orchard 154 = .ok (.getfield 94, 3) := by decide +kernel
theorem dX10_orchard_157 : decode cX10_orchard 157 = .ok (.aload_n 0, 1) := by decide +kernel
theorem dX10_orchard_158 : decode cX10_orchard 158 = .ok (.getfield 41, 3) := by decide +kernel
theorem dX10_orchard_161 : decode cX10_orchard 161 = .ok (.iconst 4, 1) := by decide +kernel
theorem dX10_orchard_162 : decode cX10_orchard 162 = .ok (.iload_n 2, 1) := by decide +kernel
theorem dX10_orchard_163 : decode cX10_orchard 163 = .ok (.imul, 1) := by decide +kernel
theorem dX10_orchard_164 : decode cX10_orchard 164 = .ok (.iconst 2, 1) := by decide +kernel
theorem dX10_orchard_165 : decode cX10_orchard 165 = .ok (.iadd, 1) := by decide +kernel
theorem dX10_orchard_166 : decode cX10_orchard 166 = .ok (.iaload, 1) := by decide +kernel
theorem dX10_orchard_167 : decode cX10_orchard 167 = .ok (.iastore, 1) := by decide +kernel
theorem dX10_orchard_168 : decode cX10_orchard 168 = .ok (.aload_n 0, 1) := by decide +kernel
theorem dX10_orchard_169 : decode cX10_orchard 169 = .ok (.getfield 22, 3) := by decide +kernel
theorem dX10_orchard_172 : decode cX10_orchard 172 = .ok (.aload_n 0, 1) := by decide +kernel
theorem dX10_orchard_173 : decode cX10_orchard 173 = .ok (.getfield 94, 3) := by decide +kernel
theorem dX10_orchard_176 : decode cX10_orchard 176 = .ok (.aload_n 0, 1) := by decide +kernel
theorem dX10_orchard_177 : decode cX10_orchard 177 = .ok (.getfield 41, 3) := by decide +kernel
theorem dX10_orchard_180 : decode cX10_orchard 180 = .ok (.iconst 4, 1) := by decide +kernel
theorem dX10_orchard_181 : decode cX10_orchard 181 = .ok (.iload_n 2, 1) := by decide +kernel
theorem dX10_orchard_182 : decode cX10_orchard 182 = .ok (.imul, 1) := by decide +kernel
theorem dX10_orchard_183 : decode cX10_orchard 183 = .ok (.iconst 3, 1) := by decide +kernel
theorem dX10_orchard_184 : decode cX10_orchard 184 = .ok (.iadd, 1) := by decide +kernel
theorem dX10_orchard_185 : decode cX10_orchard 185 = .ok (.iaload, 1) := by decide +kernel
theorem dX10_orchard_186 : decode cX10_orchard 186 = .ok (.iastore, 1) := by decide +kernel
theorem dX10_orchard_187 : decode cX10_orchard 187 = .ok (.aload_n 0, 1) := by decide +kernel
theorem dX10_orchard_188 : decode cX10_orchard 188 = .ok (.getfield 9, 3) := by decide +kernel
theorem dX10_orchard_191 : decode cX10_orchard 191 = .ok (.aload_n 0, 1) := by decide +kernel
theorem dX10_orchard_192 : decode cX10_orchard 192 = .ok (.getfield 94, 3) := by decide +kernel
theorem dX10_orchard_195 : decode cX10_orchard 195 = .ok (.iconst 0, 1) := by decide +kernel
theorem dX10_orchard_196 : decode cX10_orchard 196 = .ok (.iastore, 1) := by decide +kernel
theorem dX10_orchard_197 : decode cX10_orchard 197 = .ok (.aload_n 0, 1) := by decide +kernel
theorem dX10_orchard_198 : decode cX10_orchard 198 = .ok (.dup, 1) := by decide +kernel
theorem dX10_orchard_199 : decode cX10_orchard 199 = .ok (.getfield 94, 3) := by decide +kernel
theorem dX10_orchard_202 : decode cX10_orchard 202 = .ok (.iconst 1, 1) := by decide +kernel
theorem dX10_orchard_203 : decode cX10_orchard 203 = .ok (.iadd, 1) := by decide +kernel
theorem dX10_orchard_204 : decode cX10_orchard 204 = .ok (.putfield 94, 3) := by decide +kernel
theorem dX10_orchard_207 : decode cX10_orchard 207 = .ok (.iinc 2 1, 3) := by decide +kernel
theorem dX10_orchard_210 : decode cX10_orchard 210 = .ok (.goto (-105), 3) := by decide +kernel
theorem dX10_orchard_213 : decode cX10_orchard 213 = .ok (.iconst 0, 1) := by decide +kernel
theorem dX10_orchard_214 : decode cX10_orchard 214 = .ok (.istore_n 2, 1) := by decide +kernel
theorem dX10_orchard_215 : decode cX10_orchard 215 = .ok (.iload_n 2, 1) := by decide +kernel
theorem dX10_orchard_216 : decode cX10_orchard 216 = .ok (.aload_n 0, 1) := by decide +kernel
theorem dX10_orchard_217 : decode cX10_orchard 217 = .ok (.getfield 149, 3) := by decide +kernel
theorem dX10_orchard_220 : decode cX10_orchard 220 = .ok (.if_icmp .ge 55, 3) := by decide +kernel
theorem dX10_orchard_223 : decode cX10_orchard 223 = .ok (.aload_n 0, 1) := by decide +kernel
theorem dX10_orchard_224 : decode cX10_orchard 224 = .ok (.getfield 25, 3) := by decide +kernel
theorem dX10_orchard_227 : decode cX10_orchard 227 = .ok (.aload_n 0, 1) := by decide +kernel
theorem dX10_orchard_228 : decode cX10_orchard 228 = .ok (.getfield 101, 3) := by decide +kernel
theorem dX10_orchard_231 : decode cX10_orchard 231 = .ok (.aload_n 0, 1) := by decide +kernel
theorem dX10_orchard_232 : decode cX10_orchard 232 = .ok (.getfield 44, 3) := by decide +kernel
theorem dX10_orchard_235 : decode cX10_orchard 235 = .ok (.iconst 2, 1) := by decide +kernel
theorem dX10_orchard_236 : decode cX10_orchard 236 = .ok (.iload_n 2, 1) := by decide +kernel
theorem dX10_orchard_237 : decode cX10_orchard 237 = .ok (.imul, 1) := by decide +kernel
theorem dX10_orchard_238 : decode cX10_orchard 238 = .ok (.iaload, 1) := by decide +kernel
theorem dX10_orchard_239 : decode cX10_orchard 239 = .ok (.iastore, 1) := by decide +kernel
theorem dX10_orchard_240 : decode cX10_orchard 240 = .ok (.aload_n 0, 1) := by decide +kernel
theorem dX10_orchard_241 : decode cX10_orchard 241 = .ok (.getfield 28, 3) := by decide +kernel
theorem dX10_orchard_244 : decode cX10_orchard 244 = .ok (.aload_n 0, 1) := by decide +kernel
theorem dX10_orchard_245 : decode cX10_orchard 245 = .ok (.getfield 101, 3) := by decide +kernel
theorem dX10_orchard_248 : decode cX10_orchard 248 = .ok (.aload_n 0, 1) := by decide +kernel
theorem dX10_orchard_249 : decode cX10_orchard 249 = .ok (.getfield 44, 3) := by decide +kernel
theorem dX10_orchard_252 : decode cX10_orchard 252 = .ok (.iconst 2, 1) := by decide +kernel
theorem dX10_orchard_253 : decode cX10_orchard 253 = .ok (.iload_n 2, 1) := by decide +kernel
theorem dX10_orchard_254 : decode cX10_orchard 254 = .ok (.imul, 1) := by decide +kernel
theorem dX10_orchard_255 : decode cX10_orchard 255 = .ok (.iconst 1, 1) := by decide +kernel
theorem dX10_orchard_256 : decode cX10_orchard 256 = .ok (.iadd, 1) := by decide +kernel
theorem dX10_orchard_257 : decode cX10_orchard 257 = .ok (.iaload, 1) := by decide +kernel
theorem dX10_orchard_258 : decode cX10_orchard 258 = .ok (.iastore, 1) := by decide +kernel
theorem dX10_orchard_259 : decode cX10_orchard 259 = .ok (.aload_n 0, 1) := by decide +kernel
theorem dX10_orchard_260 : decode cX10_orchard 260 = .ok (.dup, 1) := by decide +kernel
theorem dX10_orchard_261 : decode cX10_orchard 261 = .ok (.getfield 101, 3) := by decide +kernel
theorem dX10_orchard_264 : decode cX10_orchard 264 = .ok (.iconst 1, 1) := by decide +kernel
theorem dX10_orchard_265 : decode cX10_orchard 265 = .ok (.iadd, 1) := by decide +kernel
theorem dX10_orchard_266 : decode cX10_orchard 266 = .ok (.putfield 101, 3) := by decide +kernel
theorem dX10_orchard_269 : decode cX10_orchard 269 = .ok (.iinc 2 1, 3) := by decide +kernel
theorem dX10_orchard_272 : decode cX10_orchard 272 = .ok (.goto (-57), 3) := by decide +kernel
theorem dX10_orchard_275 : decode cX10_orchard 275 = .ok (.aload_n 0, 1) := by decide +kernel
theorem dX10_orchard_276 : decode cX10_orchard 276 = .ok (.iconst 0, 1) := by decide +kernel
theorem dX10_orchard_277 : decode cX10_orchard 277 = .ok (.putfield 159, 3) := by decide +kernel
theorem dX10_orchard_280 : decode cX10_orchard 280 = .ok (.aload_n 0, 1) := by decide +kernel
theorem dX10_orchard_281 : decode cX10_orchard 281 = .ok (.dup, 1) := by decide +kernel
theorem dX10_orchard_282 : decode cX10_orchard 282 = .ok (.getfield 162, 3) := by decide +kernel
theorem dX10_orchard_285 : decode cX10_orchard 285 = .ok (.iconst 1, 1) := by decide +kernel
theorem dX10_orchard_286 : decode cX10_orchard 286 = .ok (.iadd, 1) := by decide +kernel
theorem dX10_orchard_287 : decode cX10_orchard 287 = .ok (.putfield 162, 3) := by decide +kernel
theorem dX10_orchard_290 : decode cX10_orchard 290 = .ok (.aload_n 0, 1) := by decide +kernel
theorem dX10_orchard_291 : decode cX10_orchard 291 = .ok (.getfield 138, 3) := by decide +kernel
theorem dX10_orchard_294 : decode cX10_orchard 294 = .ok (.aload_n 0, 1) := by decide +kernel
theorem dX10_orchard_295 : decode cX10_orchard 295 = .ok (.getfield 149, 3) := by decide +kernel
theorem dX10_orchard_298 : decode cX10_orchard 298 = .ok (.iadd, 1) := by decide +kernel
theorem dX10_orchard_299 : decode cX10_orchard 299 = .ok (.ireturn, 1) := by decide +kernel
theorem dX10_above_0 : decode cX10_above 0 = .ok (.iconst 0, 1) := by decide +kernel
theorem dX10_above_1 : decode cX10_above 1 = .ok (.aload_n 0, 1) := by decide +kernel
theorem dX10_above_2 : decode cX10_above 2 = .ok (.getfield 16, 3) := by decide +kernel
theorem dX10_above_5 : decode cX10_above 5 = .ok (.iload_n 1, 1) := by decide +kernel
theorem dX10_above_6 : decode cX10_above 6 = .ok (.iaload, 1) := by decide +kernel
theorem dX10_above_7 : decode cX10_above 7 = .ok (.aload_n 0, 1) := by decide +kernel
theorem dX10_above_8 : decode cX10_above 8 = .ok (.getfield 28, 3) := by decide +kernel
theorem dX10_above_11 : decode cX10_above 11 = .ok (.iload_n 2, 1) := by decide +kernel
theorem dX10_above_12 : decode cX10_above 12 = .ok (.iaload, 1) := by decide +kernel
theorem dX10_above_13 : decode cX10_above 13 = .ok (.isub, 1) := by decide +kernel
theorem dX10_above_14 : decode cX10_above 14 = .ok (.invokestatic 211, 3) := by decide +kernel
theorem dX10_above_17 : decode cX10_above 17 = .ok (.ireturn, 1) := by decide +kernel
theorem dX10_far_0 : decode cX10_far 0 = .ok (.aload_n 0, 1) := by decide +kernel
theorem dX10_far_1 : decode cX10_far 1 = .ok (.getfield 13, 3) := by decide +kernel
theorem dX10_far_4 : decode cX10_far 4 = .ok (.iload_n 1, 1) := by decide +kernel
theorem dX10_far_5 : decode cX10_far 5 = .ok (.iaload, 1) := by decide +kernel
theorem dX10_far_6 : decode cX10_far 6 = .ok (.aload_n 0, 1) := by decide +kernel
theorem dX10_far_7 : decode cX10_far 7 = .ok (.getfield 25, 3) := by decide +kernel
theorem dX10_far_10 : decode cX10_far 10 = .ok (.iload_n 2, 1) := by decide +kernel
theorem dX10_far_11 : decode cX10_far 11 = .ok (.iaload, 1) := by decide +kernel
theorem dX10_far_12 : decode cX10_far 12 = .ok (.isub, 1) := by decide +kernel
theorem dX10_far_13 : decode cX10_far 13 = .ok (.invokestatic 206, 3) := by decide +kernel
theorem dX10_far_16 : decode cX10_far 16 = .ok (.ireturn, 1) := by decide +kernel
theorem dX10_valueOf_0 : decode cX10_valueOf 0 = .ok (.iload_n 1, 1) := by decide +kernel
theorem dX10_valueOf_1 : decode cX10_valueOf 1 = .ok (.lookupswitch 115 #[(100, 59), (107, 110), (115, 105), (117, 72), (119, 95), (121, 85)], 59) := by decide +kernel
theorem dX10_valueOf_60 : decode cX10_valueOf 60 = .ok (.aload_n 0, 1) := by decide +kernel
theorem dX10_valueOf_61 : decode cX10_valueOf 61 = .ok (.aload_n 0, 1) := by decide +kernel
theorem dX10_valueOf_62 : decode cX10_valueOf 62 = .ok (.getfield 184, 3) := by decide +kernel
theorem dX10_valueOf_65 : decode cX10_valueOf 65 = .ok (.aload_n 0, 1) := by decide +kernel
theorem dX10_valueOf_66 : decode cX10_valueOf 66 = .ok (.getfield 187, 3) := by decide +kernel
theorem dX10_valueOf_69 : decode cX10_valueOf 69 = .ok (.invokevirtual 190, 3) := by decide +kernel
theorem dX10_valueOf_72 : decode cX10_valueOf 72 = .ok (.ireturn, 1) := by decide +kernel
theorem dX10_valueOf_73 : decode cX10_valueOf 73 = .ok (.aload_n 0, 1) := by decide +kernel
theorem dX10_valueOf_74 : decode cX10_valueOf 74 = .ok (.aload_n 0, 1) := by decide +kernel
theorem dX10_valueOf_75 : decode cX10_valueOf 75 = .ok (.getfield 184, 3) := by decide +kernel
theorem dX10_valueOf_78 : decode cX10_valueOf 78 = .ok (.aload_n 0, 1) := by decide +kernel
theorem dX10_valueOf_79 : decode cX10_valueOf 79 = .ok (.getfield 187, 3) := by decide +kernel
theorem dX10_valueOf_82 : decode cX10_valueOf 82 = .ok (.invokevirtual 194, 3) := by decide +kernel
theorem dX10_valueOf_85 : decode cX10_valueOf 85 = .ok (.ireturn, 1) := by decide +kernel
theorem dX10_valueOf_86 : decode cX10_valueOf 86 = .ok (.aload_n 0, 1) := by decide +kernel
theorem dX10_valueOf_87 : decode cX10_valueOf 87 = .ok (.getfield 16, 3) := by decide +kernel
theorem dX10_valueOf_90 : decode cX10_valueOf 90 = .ok (.aload_n 0, 1) := by decide +kernel
theorem dX10_valueOf_91 : decode cX10_valueOf 91 = .ok (.getfield 184, 3) := by decide +kernel
theorem dX10_valueOf_94 : decode cX10_valueOf 94 = .ok (.iaload, 1) := by decide +kernel
theorem dX10_valueOf_95 : decode cX10_valueOf 95 = .ok (.ireturn, 1) := by decide +kernel
theorem dX10_valueOf_96 : decode cX10_valueOf 96 = .ok (.aload_n 0, 1) := by decide +kernel
theorem dX10_valueOf_97 : decode cX10_valueOf 97 = .ok (.getfield 19, 3) := by decide +kernel
theorem dX10_valueOf_100 : decode cX10_valueOf 100 = .ok (.aload_n 0, 1) := by decide +kernel
theorem dX10_valueOf_101 : decode cX10_valueOf 101 = .ok (.getfield 184, 3) := by decide +kernel
theorem dX10_valueOf_104 : decode cX10_valueOf 104 = .ok (.iaload, 1) := by decide +kernel
theorem dX10_valueOf_105 : decode cX10_valueOf 105 = .ok (.ireturn, 1) := by decide +kernel
theorem dX10_valueOf_106 : decode cX10_valueOf 106 = .ok (.aload_n 0, 1) := by decide +kernel
theorem dX10_valueOf_107 : decode cX10_valueOf 107 = .ok (.getfield 187, 3) := by decide +kernel
theorem dX10_valueOf_110 : decode cX10_valueOf 110 = .ok (.ireturn, 1) := by decide +kernel
theorem dX10_valueOf_111 : decode cX10_valueOf 111 = .ok (.aload_n 0, 1) := by decide +kernel
theorem dX10_valueOf_112 : decode cX10_valueOf 112 = .ok (.getfield 197, 3) := by decide +kernel
theorem dX10_valueOf_115 : decode cX10_valueOf 115 = .ok (.ireturn, 1) := by decide +kernel
theorem dX10_valueOf_116 : decode cX10_valueOf 116 = .ok (.aload_n 0, 1) := by decide +kernel
theorem dX10_valueOf_117 : decode cX10_valueOf 117 = .ok (.getfield 200, 3) := by decide +kernel
theorem dX10_valueOf_120 : decode cX10_valueOf 120 = .ok (.ireturn, 1) := by decide +kernel
theorem dX10_thing_0 : decode cX10_thing 0 = .ok (.aload_n 0, 1) := by decide +kernel
theorem dX10_thing_1 : decode cX10_thing 1 = .ok (.bipush 45, 2) := by decide +kernel
theorem dX10_thing_3 : decode cX10_thing 3 = .ok (.invokevirtual 130, 3) := by decide +kernel
theorem dX10_thing_6 : decode cX10_thing 6 = .ok (.ifCond .eq 10, 3) := by decide +kernel
theorem dX10_thing_9 : decode cX10_thing 9 = .ok (.aload_n 0, 1) := by decide +kernel
theorem dX10_thing_10 : decode cX10_thing 10 = .ok (.iload_n 1, 1) := by decide +kernel
theorem dX10_thing_11 : decode cX10_thing 11 = .ok (.invokevirtual 171, 3) := by decide +kernel
theorem dX10_thing_14 : decode cX10_thing 14 = .ok (.ineg, 1) := by decide +kernel
