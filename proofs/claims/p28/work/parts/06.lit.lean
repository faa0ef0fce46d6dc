theorem aDx : Int32.ofInt 1 = 1 := by decide
theorem aEJ : Int32.ofInt (-1) = (-1) := by decide
theorem aCi : Int32.ofInt 0 = 0 := by decide
theorem ic_2 : Int32.ofInt 2 = 2 := by decide
theorem bp_76 : (Int8.ofInt 76).toInt32 = 76 := by decide
theorem bp_24 : (Int8.ofInt 24).toInt32 = 24 := by decide
theorem bp_48 : (Int8.ofInt 48).toInt32 = 48 := by decide
theorem bp_57 : (Int8.ofInt 57).toInt32 = 57 := by decide
theorem bp_10 : (Int8.ofInt 10).toInt32 = 10 := by decide
theorem bp_44 : (Int8.ofInt 44).toInt32 = 44 := by decide
theorem bp_64 : (Int8.ofInt 64).toInt32 = 64 := by decide
theorem bp_42 : (Int8.ofInt 42).toInt32 = 42 := by decide
theorem sp_255 : (Int16.ofInt 255).toInt32 = 255 := by decide
theorem pn_RX8 : plainName RX8 = true := by decide
theorem pn_RX9 : plainName RX9 = true := by decide
theorem pn_RX3 : plainName RX3 = true := by decide
theorem pn_RX4 : plainName RX4 = true := by decide
theorem bp_115 : (Int8.ofInt 115).toInt32 = 115 := by decide
theorem bp_8 : (Int8.ofInt 8).toInt32 = 8 := by decide
theorem bp_102 : (Int8.ofInt 102).toInt32 = 102 := by decide
theorem bp_16 : (Int8.ofInt 16).toInt32 = 16 := by decide
theorem bp_59 : (Int8.ofInt 59).toInt32 = 59 := by decide
theorem pn_RX7 : plainName RX7 = true := by decide
theorem ic_3 : Int32.ofInt 3 = 3 := by decide
theorem ic_4 : Int32.ofInt 4 = 4 := by decide
theorem bp_45 : (Int8.ofInt 45).toInt32 = 45 := by decide
theorem bp_40 : (Int8.ofInt 40).toInt32 = 40 := by decide
theorem bp_41 : (Int8.ofInt 41).toInt32 = 41 := by decide
theorem sp_1000 : (Int16.ofInt 1000).toInt32 = 1000 := by decide
theorem sp_256 : (Int16.ofInt 256).toInt32 = 256 := by decide
theorem sp_2000 : (Int16.ofInt 2000).toInt32 = 2000 := by decide
theorem bp_9 : (Int8.ofInt 9).toInt32 = 9 := by decide
theorem pn_RX0 : plainName RX0 = true := by decide
theorem pn_RX2 : plainName RX2 = true := by decide
theorem ic_5 : Int32.ofInt 5 = 5 := by decide
theorem bp_m2 : (Int8.ofInt (-2)).toInt32 = (-2) := by decide
theorem bp_m3 : (Int8.ofInt (-3)).toInt32 = (-3) := by decide
theorem bp_6 : (Int8.ofInt 6).toInt32 = 6 := by decide
theorem bp_7 : (Int8.ofInt 7).toInt32 = 7 := by decide
theorem bp_13 : (Int8.ofInt 13).toInt32 = 13 := by decide
theorem bp_12 : (Int8.ofInt 12).toInt32 = 12 := by decide
theorem sp_9999 : (Int16.ofInt 9999).toInt32 = 9999 := by decide
theorem bp_63 : (Int8.ofInt 63).toInt32 = 63 := by decide
theorem sp_2256 : (Int16.ofInt 2256).toInt32 = 2256 := by decide
theorem bp_99 : (Int8.ofInt 99).toInt32 = 99 := by decide
theorem bp_m4 : (Int8.ofInt (-4)).toInt32 = (-4) := by decide
theorem bp_m5 : (Int8.ofInt (-5)).toInt32 = (-5) := by decide
theorem bp_30 : (Int8.ofInt 30).toInt32 = 30 := by decide
theorem bp_100 : (Int8.ofInt 100).toInt32 = 100 := by decide
theorem bp_112 : (Int8.ofInt 112).toInt32 = 112 := by decide
theorem bp_104 : (Int8.ofInt 104).toInt32 = 104 := by decide
theorem pn_RX6 : plainName RX6 = true := by decide
theorem bp_60 : (Int8.ofInt 60).toInt32 = 60 := by decide
theorem pn_RX5 : plainName RX5 = true := by decide
theorem bp_31 : (Int8.ofInt 31).toInt32 = 31 := by decide
theorem sp_300 : (Int16.ofInt 300).toInt32 = 300 := by decide
theorem bp_m100 : (Int8.ofInt (-100)).toInt32 = (-100) := by decide
theorem bp_80 : (Int8.ofInt 80).toInt32 = 80 := by decide
theorem pn_RX1 : plainName RX1 = true := by decide
theorem sp_12345 : (Int16.ofInt 12345).toInt32 = 12345 := by decide
theorem aFY : plainName zX = true := by decide
theorem bp_117 : (Int8.ofInt 117).toInt32 = 117 := by decide
theorem bp_121 : (Int8.ofInt 121).toInt32 = 121 := by decide
theorem bp_119 : (Int8.ofInt 119).toInt32 = 119 := by decide
theorem bp_107 : (Int8.ofInt 107).toInt32 = 107 := by decide
theorem bp_111 : (Int8.ofInt 111).toInt32 = 111 := by decide
theorem bp_47 : (Int8.ofInt 47).toInt32 = 47 := by decide
theorem bp_43 : (Int8.ofInt 43).toInt32 = 43 := by decide
theorem bp_62 : (Int8.ofInt 62).toInt32 = 62 := by decide
theorem bp_61 : (Int8.ofInt 61).toInt32 = 61 := by decide
theorem bp_17 : (Int8.ofInt 17).toInt32 = 17 := by decide
theorem bp_21 : (Int8.ofInt 21).toInt32 = 21 := by decide
theorem bp_20 : (Int8.ofInt 20).toInt32 = 20 := by decide
theorem sp_231 : (Int16.ofInt 231).toInt32 = 231 := by decide
theorem bp_18 : (Int8.ofInt 18).toInt32 = 18 := by decide
theorem bp_19 : (Int8.ofInt 19).toInt32 = 19 := by decide
theorem bp_109 : (Int8.ofInt 109).toInt32 = 109 := by decide
theorem bp_97 : (Int8.ofInt 97).toInt32 = 97 := by decide
theorem bp_122 : (Int8.ofInt 122).toInt32 = 122 := by decide
theorem bp_32 : (Int8.ofInt 32).toInt32 = 32 := by decide
theorem li_m8 : Int32.toInt ((-8) : Int32) = -8 := by decide
theorem aE0 : Int32.toInt (0 : Int32) = 0 := by decide
theorem aEc : Int32.toInt (1 : Int32) = 1 := by decide
theorem aI2 : Int32.toInt ((-1) : Int32) = -1 := by decide
theorem li_24 : Int32.toInt (24 : Int32) = 24 := by decide
theorem li_76 : Int32.toInt (76 : Int32) = 76 := by decide
theorem li_2 : Int32.toInt (2 : Int32) = 2 := by decide
theorem li_48 : Int32.toInt (48 : Int32) = 48 := by decide
theorem li_57 : Int32.toInt (57 : Int32) = 57 := by decide
theorem li_64 : Int32.toInt (64 : Int32) = 64 := by decide
theorem li_16 : Int32.toInt (16 : Int32) = 16 := by decide
theorem li_42 : Int32.toInt (42 : Int32) = 42 := by decide
theorem li_44 : Int32.toInt (44 : Int32) = 44 := by decide
theorem li_115 : Int32.toInt (115 : Int32) = 115 := by decide
theorem li_8 : Int32.toInt (8 : Int32) = 8 := by decide
theorem li_102 : Int32.toInt (102 : Int32) = 102 := by decide
theorem li_59 : Int32.toInt (59 : Int32) = 59 := by decide
theorem li_40 : Int32.toInt (40 : Int32) = 40 := by decide
theorem li_1000 : Int32.toInt (1000 : Int32) = 1000 := by decide
theorem li_3 : Int32.toInt (3 : Int32) = 3 := by decide
theorem li_256 : Int32.toInt (256 : Int32) = 256 := by decide
theorem li_4 : Int32.toInt (4 : Int32) = 4 := by decide
theorem li_45 : Int32.toInt (45 : Int32) = 45 := by decide
theorem li_2000 : Int32.toInt (2000 : Int32) = 2000 := by decide
theorem li_43 : Int32.toInt (43 : Int32) = 43 := by decide
theorem li_47 : Int32.toInt (47 : Int32) = 47 := by decide
theorem li_60 : Int32.toInt (60 : Int32) = 60 := by decide
theorem li_61 : Int32.toInt (61 : Int32) = 61 := by decide
theorem li_62 : Int32.toInt (62 : Int32) = 62 := by decide
theorem li_41 : Int32.toInt (41 : Int32) = 41 := by decide
theorem li_5 : Int32.toInt (5 : Int32) = 5 := by decide
theorem li_6 : Int32.toInt (6 : Int32) = 6 := by decide
theorem li_9 : Int32.toInt (9 : Int32) = 9 := by decide
theorem li_9999 : Int32.toInt (9999 : Int32) = 9999 := by decide
theorem li_104 : Int32.toInt (104 : Int32) = 104 := by decide
theorem li_12 : Int32.toInt (12 : Int32) = 12 := by decide
theorem li_13 : Int32.toInt (13 : Int32) = 13 := by decide
theorem li_7 : Int32.toInt (7 : Int32) = 7 := by decide
theorem li_2256 : Int32.toInt (2256 : Int32) = 2256 := by decide
theorem li_99 : Int32.toInt (99 : Int32) = 99 := by decide
theorem li_m2 : Int32.toInt ((-2) : Int32) = -2 := by decide
theorem li_m3 : Int32.toInt ((-3) : Int32) = -3 := by decide
theorem li_m4 : Int32.toInt ((-4) : Int32) = -4 := by decide
theorem li_m5 : Int32.toInt ((-5) : Int32) = -5 := by decide
theorem aJ8 : Int32.toInt (252645135 : Int32) = 252645135 := by decide
theorem li_63 : Int32.toInt (63 : Int32) = 63 := by decide
theorem aJ9 : Int32.toInt (858993459 : Int32) = 858993459 := by decide
theorem aKH : Int32.toInt (1431655765 : Int32) = 1431655765 := by decide
theorem li_100 : Int32.toInt (100 : Int32) = 100 := by decide
theorem li_107 : Int32.toInt (107 : Int32) = 107 := by decide
theorem li_109 : Int32.toInt (109 : Int32) = 109 := by decide
theorem li_111 : Int32.toInt (111 : Int32) = 111 := by decide
theorem li_112 : Int32.toInt (112 : Int32) = 112 := by decide
theorem li_97 : Int32.toInt (97 : Int32) = 97 := by decide
theorem li_30 : Int32.toInt (30 : Int32) = 30 := by decide
theorem li_122 : Int32.toInt (122 : Int32) = 122 := by decide
theorem li_31 : Int32.toInt (31 : Int32) = 31 := by decide
theorem li_m2147483648 : Int32.toInt ((-2147483648) : Int32) = -2147483648 := by decide
theorem li_300 : Int32.toInt (300 : Int32) = 300 := by decide
theorem li_65535 : Int32.toInt (65535 : Int32) = 65535 := by decide
theorem li_m100 : Int32.toInt ((-100) : Int32) = -100 := by decide
theorem li_80 : Int32.toInt (80 : Int32) = 80 := by decide
theorem li_10 : Int32.toInt (10 : Int32) = 10 := by decide
theorem li_11 : Int32.toInt (11 : Int32) = 11 := by decide
theorem li_255 : Int32.toInt (255 : Int32) = 255 := by decide
theorem li_117 : Int32.toInt (117 : Int32) = 117 := by decide
theorem li_119 : Int32.toInt (119 : Int32) = 119 := by decide
theorem li_121 : Int32.toInt (121 : Int32) = 121 := by decide
theorem li_21 : Int32.toInt (21 : Int32) = 21 := by decide
theorem li_231 : Int32.toInt (231 : Int32) = 231 := by decide
theorem li_17 : Int32.toInt (17 : Int32) = 17 := by decide
theorem li_20 : Int32.toInt (20 : Int32) = 20 := by decide
theorem li_18 : Int32.toInt (18 : Int32) = 18 := by decide
theorem li_19 : Int32.toInt (19 : Int32) = 19 := by decide
theorem li_1000000 : Int32.toInt (1000000 : Int32) = 1000000 := by decide

