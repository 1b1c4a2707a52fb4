set_option maxRecDepth 100000 in
theorem z_m81 : z_mPr 0 81 2 7 := ⟨⟨789, rfl⟩, ⟨175, rfl⟩, z_g7, by decide, Or.inl ⟨rfl, ⟨787, rfl⟩, ⟨1, rfl, z_d5⟩, _, _, _, 788, rfl, rfl⟩⟩
set_option maxRecDepth 100000 in
theorem z_m86 : z_mPr 0 86 2 7 := ⟨⟨854, rfl⟩, ⟨175, rfl⟩, z_g7, by decide, Or.inl ⟨rfl, ⟨852, rfl⟩, ⟨1, rfl, z_d5⟩, _, _, _, 853, rfl, rfl⟩⟩
set_option maxRecDepth 100000 in
theorem z_m87 : z_mPr 0 87 2 7 := ⟨⟨858, rfl⟩, ⟨175, rfl⟩, z_g7, by decide, Or.inl ⟨rfl, ⟨856, rfl⟩, ⟨1, rfl, z_d5⟩, _, _, _, 857, rfl, rfl⟩⟩
set_option maxRecDepth 100000 in
theorem z_m88 : z_mPr 0 88 2 4 := ⟨⟨862, rfl⟩, ⟨179, rfl⟩, z_g4, by decide, Or.inl ⟨rfl, ⟨861, rfl⟩, ⟨1, rfl, z_d27⟩, _, _, _, 14, rfl, rfl⟩⟩
set_option maxRecDepth 100000 in
theorem z_m89 : z_mPr 0 89 1 4 := ⟨⟨866, rfl⟩, ⟨179, rfl⟩, z_g4, by decide, Or.inl ⟨rfl, ⟨865, rfl⟩, ⟨0, rfl, z_d1⟩, _, _, _, 15, rfl, rfl⟩⟩
set_option maxRecDepth 100000 in
theorem z_m90 : z_mPr 0 90 1 4 := ⟨⟨870, rfl⟩, ⟨179, rfl⟩, z_g4, by decide, Or.inl ⟨rfl, ⟨869, rfl⟩, ⟨0, rfl, z_d1⟩, _, _, _, 16, rfl, rfl⟩⟩
set_option maxRecDepth 100000 in
theorem z_m91 : z_mPr 0 91 1 4 := ⟨⟨874, rfl⟩, ⟨179, rfl⟩, z_g4, by decide, Or.inl ⟨rfl, ⟨873, rfl⟩, ⟨0, rfl, z_d1⟩, _, _, _, 17, rfl, rfl⟩⟩
set_option maxRecDepth 100000 in
theorem z_m92 : z_mPr 0 92 1 4 := ⟨⟨878, rfl⟩, ⟨179, rfl⟩, z_g4, by decide, Or.inl ⟨rfl, ⟨877, rfl⟩, ⟨0, rfl, z_d1⟩, _, _, _, 18, rfl, rfl⟩⟩
set_option maxRecDepth 100000 in
theorem z_m93 : z_mPr 0 93 3 4 := ⟨⟨882, rfl⟩, ⟨179, rfl⟩, z_g4, by decide, Or.inl ⟨rfl, ⟨881, rfl⟩, ⟨2, rfl, z_d8⟩, _, _, _, 19, rfl, rfl⟩⟩
set_option maxRecDepth 100000 in
theorem z_m94 : z_mPr 0 94 5 8 := ⟨⟨886, rfl⟩, ⟨177, rfl⟩, z_g8, by decide, Or.inl ⟨rfl, ⟨884, rfl⟩, ⟨4, rfl, z_d14⟩, _, _, _, 885, rfl, rfl⟩⟩
set_option maxRecDepth 100000 in
theorem z_m95 : z_mPr 0 95 1 4 := ⟨⟨891, rfl⟩, ⟨179, rfl⟩, z_g4, by decide, Or.inl ⟨rfl, ⟨890, rfl⟩, ⟨0, rfl, z_d3⟩, _, _, _, 20, rfl, rfl⟩⟩
set_option maxRecDepth 100000 in
theorem z_m96 : z_mPr 0 96 2 3 := ⟨⟨895, rfl⟩, ⟨169, rfl⟩, z_g3, by decide, Or.inl ⟨rfl, ⟨893, rfl⟩, ⟨1, rfl, z_d5⟩, _, _, _, 894, rfl, rfl⟩⟩
set_option maxRecDepth 100000 in
theorem z_m97 : z_mPr 0 97 2 7 := ⟨⟨900, rfl⟩, ⟨175, rfl⟩, z_g7, by decide, Or.inl ⟨rfl, ⟨898, rfl⟩, ⟨1, rfl, z_d5⟩, _, _, _, 899, rfl, rfl⟩⟩
set_option maxRecDepth 100000 in
theorem z_m98 : z_mPr 0 98 1 4 := ⟨⟨904, rfl⟩, ⟨179, rfl⟩, z_g4, by decide, Or.inl ⟨rfl, ⟨903, rfl⟩, ⟨0, rfl, z_d1⟩, _, _, _, 21, rfl, rfl⟩⟩
set_option maxRecDepth 100000 in
theorem z_m99 : z_mPr 0 99 1 4 := ⟨⟨908, rfl⟩, ⟨179, rfl⟩, z_g4, by decide, Or.inl ⟨rfl, ⟨907, rfl⟩, ⟨0, rfl, z_d2⟩, _, _, _, 22, rfl, rfl⟩⟩
set_option maxRecDepth 100000 in
theorem z_m100 : z_mPr 0 100 2 4 := ⟨⟨912, rfl⟩, ⟨179, rfl⟩, z_g4, by decide, Or.inl ⟨rfl, ⟨911, rfl⟩, ⟨1, rfl, z_d5⟩, _, _, _, 23, rfl, rfl⟩⟩
set_option maxRecDepth 100000 in
theorem z_m101 : z_mPr 1 101 1 0 := ⟨⟨915, rfl⟩, ⟨179, rfl⟩, z_g4, by decide, Or.inr (Or.inr (Or.inl ⟨rfl, ⟨914, rfl⟩, z_d7, rfl⟩))⟩
set_option maxRecDepth 100000 in
theorem z_m102 : z_mPr 0 102 1 4 := ⟨⟨919, rfl⟩, ⟨179, rfl⟩, z_g4, by decide, Or.inl ⟨rfl, ⟨918, rfl⟩, ⟨0, rfl, z_d1⟩, _, _, _, 24, rfl, rfl⟩⟩
set_option maxRecDepth 100000 in
theorem z_m103 : z_mPr 0 103 3 4 := ⟨⟨923, rfl⟩, ⟨179, rfl⟩, z_g4, by decide, Or.inl ⟨rfl, ⟨922, rfl⟩, ⟨2, rfl, z_d8⟩, _, _, _, 25, rfl, rfl⟩⟩
set_option maxRecDepth 100000 in
theorem z_m104 : z_mPr 0 104 3 8 := ⟨⟨927, rfl⟩, ⟨177, rfl⟩, z_g8, by decide, Or.inl ⟨rfl, ⟨925, rfl⟩, ⟨2, rfl, z_d10⟩, _, _, _, 926, rfl, rfl⟩⟩
set_option maxRecDepth 100000 in
theorem z_m105 : z_mPr 0 105 2 4 := ⟨⟨932, rfl⟩, ⟨179, rfl⟩, z_g4, by decide, Or.inl ⟨rfl, ⟨931, rfl⟩, ⟨1, rfl, z_d6⟩, _, _, _, 26, rfl, rfl⟩⟩
set_option maxRecDepth 100000 in
theorem z_m106 : z_mPr 0 106 3 8 := ⟨⟨936, rfl⟩, ⟨177, rfl⟩, z_g8, by decide, Or.inl ⟨rfl, ⟨934, rfl⟩, ⟨2, rfl, z_d8⟩, _, _, _, 935, rfl, rfl⟩⟩
set_option maxRecDepth 100000 in
theorem z_m107 : z_mPr 0 107 1 4 := ⟨⟨940, rfl⟩, ⟨179, rfl⟩, z_g4, by decide, Or.inl ⟨rfl, ⟨939, rfl⟩, ⟨0, rfl, z_d1⟩, _, _, _, 27, rfl, rfl⟩⟩
set_option maxRecDepth 100000 in
theorem z_m108 : z_mPr 0 108 1 4 := ⟨⟨944, rfl⟩, ⟨179, rfl⟩, z_g4, by decide, Or.inl ⟨rfl, ⟨943, rfl⟩, ⟨0, rfl, z_d2⟩, _, _, _, 28, rfl, rfl⟩⟩
set_option maxRecDepth 100000 in
theorem z_m109 : z_mPr 1 109 1 0 := ⟨⟨947, rfl⟩, ⟨179, rfl⟩, z_g4, by decide, Or.inr (Or.inr (Or.inl ⟨rfl, ⟨946, rfl⟩, z_d7, rfl⟩))⟩
set_option maxRecDepth 100000 in
theorem z_m110 : z_mPr 1 110 1 0 := ⟨⟨950, rfl⟩, ⟨179, rfl⟩, z_g4, by decide, Or.inr (Or.inr (Or.inl ⟨rfl, ⟨949, rfl⟩, z_d7, rfl⟩))⟩
set_option maxRecDepth 100000 in
theorem z_m111 : z_mPr 0 111 1 4 := ⟨⟨954, rfl⟩, ⟨179, rfl⟩, z_g4, by decide, Or.inl ⟨rfl, ⟨953, rfl⟩, ⟨0, rfl, z_d1⟩, _, _, _, 29, rfl, rfl⟩⟩
set_option maxRecDepth 100000 in
theorem z_m112 : z_mPr 0 112 2 5 := ⟨⟨958, rfl⟩, ⟨178, rfl⟩, z_g5, by decide, Or.inl ⟨rfl, ⟨956, rfl⟩, ⟨1, rfl, z_d5⟩, _, _, _, 957, rfl, rfl⟩⟩
set_option maxRecDepth 100000 in
theorem z_m113 : z_mPr 0 113 2 4 := ⟨⟨962, rfl⟩, ⟨179, rfl⟩, z_g4, by decide, Or.inl ⟨rfl, ⟨961, rfl⟩, ⟨1, rfl, z_d6⟩, _, _, _, 30, rfl, rfl⟩⟩
set_option maxRecDepth 100000 in
theorem z_m114 : z_mPr 0 114 1 4 := ⟨⟨966, rfl⟩, ⟨179, rfl⟩, z_g4, by decide, Or.inl ⟨rfl, ⟨965, rfl⟩, ⟨0, rfl, z_d1⟩, _, _, _, 31, rfl, rfl⟩⟩
set_option maxRecDepth 100000 in
theorem z_m115 : z_mPr 0 115 3 8 := ⟨⟨970, rfl⟩, ⟨177, rfl⟩, z_g8, by decide, Or.inl ⟨rfl, ⟨968, rfl⟩, ⟨2, rfl, z_d9⟩, _, _, _, 969, rfl, rfl⟩⟩
set_option maxRecDepth 100000 in
theorem z_m116 : z_mPr 0 116 1 4 := ⟨⟨974, rfl⟩, ⟨179, rfl⟩, z_g4, by decide, Or.inl ⟨rfl, ⟨973, rfl⟩, ⟨0, rfl, z_d1⟩, _, _, _, 32, rfl, rfl⟩⟩
set_option maxRecDepth 100000 in
theorem z_m117 : z_mPr 0 117 2 4 := ⟨⟨978, rfl⟩, ⟨179, rfl⟩, z_g4, by decide, Or.inl ⟨rfl, ⟨977, rfl⟩, ⟨1, rfl, z_d27⟩, _, _, _, 33, rfl, rfl⟩⟩
set_option maxRecDepth 100000 in
theorem z_m118 : z_mPr 0 118 1 5 := ⟨⟨982, rfl⟩, ⟨178, rfl⟩, z_g5, by decide, Or.inl ⟨rfl, ⟨980, rfl⟩, ⟨0, rfl, z_d1⟩, _, _, _, 981, rfl, rfl⟩⟩
set_option maxRecDepth 100000 in
theorem z_m119 : z_mPr 0 119 1 4 := ⟨⟨986, rfl⟩, ⟨179, rfl⟩, z_g4, by decide, Or.inl ⟨rfl, ⟨985, rfl⟩, ⟨0, rfl, z_d1⟩, _, _, _, 34, rfl, rfl⟩⟩
set_option maxRecDepth 100000 in
theorem z_m120 : z_mPr 0 120 3 4 := ⟨⟨990, rfl⟩, ⟨179, rfl⟩, z_g4, by decide, Or.inl ⟨rfl, ⟨989, rfl⟩, ⟨2, rfl, z_d8⟩, _, _, _, 35, rfl, rfl⟩⟩
set_option maxRecDepth 100000 in
theorem z_m121 : z_mPr 0 121 3 5 := ⟨⟨995, rfl⟩, ⟨178, rfl⟩, z_g5, by decide, Or.inl ⟨rfl, ⟨993, rfl⟩, ⟨2, rfl, z_d9⟩, _, _, _, 994, rfl, rfl⟩⟩
set_option maxRecDepth 100000 in
theorem z_m122 : z_mPr 0 122 2 4 := ⟨⟨1000, rfl⟩, ⟨179, rfl⟩, z_g4, by decide, Or.inl ⟨rfl, ⟨999, rfl⟩, ⟨1, rfl, z_d27⟩, _, _, _, 36, rfl, rfl⟩⟩
set_option maxRecDepth 100000 in
theorem z_m123 : z_mPr 0 123 2 4 := ⟨⟨1004, rfl⟩, ⟨179, rfl⟩, z_g4, by decide, Or.inl ⟨rfl, ⟨1003, rfl⟩, ⟨1, rfl, z_d27⟩, _, _, _, 37, rfl, rfl⟩⟩
set_option maxRecDepth 100000 in
theorem z_m124 : z_mPr 0 124 2 4 := ⟨⟨1008, rfl⟩, ⟨179, rfl⟩, z_g4, by decide, Or.inl ⟨rfl, ⟨1007, rfl⟩, ⟨1, rfl, z_d27⟩, _, _, _, 38, rfl, rfl⟩⟩
set_option maxRecDepth 100000 in
theorem z_m125 : z_mPr 0 125 2 4 := ⟨⟨1012, rfl⟩, ⟨179, rfl⟩, z_g4, by decide, Or.inl ⟨rfl, ⟨1011, rfl⟩, ⟨1, rfl, z_d27⟩, _, _, _, 39, rfl, rfl⟩⟩
set_option maxRecDepth 100000 in
theorem z_m126 : z_mPr 0 126 1 4 := ⟨⟨1016, rfl⟩, ⟨179, rfl⟩, z_g4, by decide, Or.inl ⟨rfl, ⟨1015, rfl⟩, ⟨0, rfl, z_d1⟩, _, _, _, 40, rfl, rfl⟩⟩
set_option maxRecDepth 100000 in
theorem z_m127 : z_mPr 0 127 1 4 := ⟨⟨1020, rfl⟩, ⟨179, rfl⟩, z_g4, by decide, Or.inl ⟨rfl, ⟨1019, rfl⟩, ⟨0, rfl, z_d1⟩, _, _, _, 41, rfl, rfl⟩⟩
set_option maxRecDepth 100000 in
theorem z_m128 : z_mPr 0 128 4 4 := ⟨⟨1024, rfl⟩, ⟨179, rfl⟩, z_g4, by decide, Or.inl ⟨rfl, ⟨1023, rfl⟩, ⟨3, rfl, z_d11⟩, _, _, _, 42, rfl, rfl⟩⟩
set_option maxRecDepth 100000 in
theorem z_m129 : z_mPr 0 129 2 4 := ⟨⟨1028, rfl⟩, ⟨179, rfl⟩, z_g4, by decide, Or.inl ⟨rfl, ⟨1027, rfl⟩, ⟨1, rfl, z_d27⟩, _, _, _, 43, rfl, rfl⟩⟩
set_option maxRecDepth 100000 in
theorem z_m130 : z_mPr 1 130 1 0 := ⟨⟨1031, rfl⟩, ⟨179, rfl⟩, z_g4, by decide, Or.inr (Or.inr (Or.inl ⟨rfl, ⟨1030, rfl⟩, z_d5, rfl⟩))⟩
set_option maxRecDepth 100000 in
theorem z_m131 : z_mPr 1 131 1 0 := ⟨⟨1034, rfl⟩, ⟨179, rfl⟩, z_g4, by decide, Or.inr (Or.inr (Or.inl ⟨rfl, ⟨1033, rfl⟩, z_d7, rfl⟩))⟩
set_option maxRecDepth 100000 in
theorem z_m132 : z_mPr 1 132 1 0 := ⟨⟨1037, rfl⟩, ⟨179, rfl⟩, z_g4, by decide, Or.inr (Or.inr (Or.inl ⟨rfl, ⟨1036, rfl⟩, z_d7, rfl⟩))⟩
set_option maxRecDepth 100000 in
theorem z_m133 : z_mPr 0 133 1 4 := ⟨⟨1041, rfl⟩, ⟨179, rfl⟩, z_g4, by decide, Or.inl ⟨rfl, ⟨1040, rfl⟩, ⟨0, rfl, z_d1⟩, _, _, _, 44, rfl, rfl⟩⟩
set_option maxRecDepth 100000 in
theorem z_m134 : z_mPr 0 134 1 4 := ⟨⟨1045, rfl⟩, ⟨179, rfl⟩, z_g4, by decide, Or.inl ⟨rfl, ⟨1044, rfl⟩, ⟨0, rfl, z_d1⟩, _, _, _, 45, rfl, rfl⟩⟩
set_option maxRecDepth 100000 in
theorem z_m135 : z_mPr 0 135 2 8 := ⟨⟨1049, rfl⟩, ⟨177, rfl⟩, z_g8, by decide, Or.inl ⟨rfl, ⟨1047, rfl⟩, ⟨1, rfl, z_d5⟩, _, _, _, 1048, rfl, rfl⟩⟩
set_option maxRecDepth 100000 in
theorem z_m136 : z_mPr 1 136 1 0 := ⟨⟨1052, rfl⟩, ⟨179, rfl⟩, z_g4, by decide, Or.inr (Or.inr (Or.inl ⟨rfl, ⟨1051, rfl⟩, z_d7, rfl⟩))⟩
set_option maxRecDepth 100000 in
theorem z_m137 : z_mPr 0 137 1 0 := ⟨⟨1056, rfl⟩, ⟨167, rfl⟩, z_g0, by decide, Or.inl ⟨rfl, ⟨1055, rfl⟩, ⟨0, rfl, z_d2⟩, _, _, _, 46, rfl, rfl⟩⟩
set_option maxRecDepth 100000 in
theorem z_m138 : z_mPr 0 138 1 4 := ⟨⟨1060, rfl⟩, ⟨179, rfl⟩, z_g4, by decide, Or.inl ⟨rfl, ⟨1058, rfl⟩, ⟨0, rfl, z_d1⟩, _, _, _, 1059, rfl, rfl⟩⟩
set_option maxRecDepth 100000 in
theorem z_m139 : z_mPr 0 139 1 4 := ⟨⟨1064, rfl⟩, ⟨179, rfl⟩, z_g4, by decide, Or.inl ⟨rfl, ⟨1062, rfl⟩, ⟨0, rfl, z_d1⟩, _, _, _, 1063, rfl, rfl⟩⟩
set_option maxRecDepth 100000 in
theorem z_m140 : z_mPr 0 140 2 6 := ⟨⟨1068, rfl⟩, ⟨168, rfl⟩, z_g6, by decide, Or.inl ⟨rfl, ⟨1066, rfl⟩, ⟨1, rfl, z_d5⟩, _, _, _, 1067, rfl, rfl⟩⟩
set_option maxRecDepth 100000 in
theorem z_m141 : z_mPr 0 141 2 6 := ⟨⟨1073, rfl⟩, ⟨168, rfl⟩, z_g6, by decide, Or.inl ⟨rfl, ⟨1071, rfl⟩, ⟨1, rfl, z_d5⟩, _, _, _, 1072, rfl, rfl⟩⟩
set_option maxRecDepth 100000 in
theorem z_m142 : z_mPr 0 142 1 4 := ⟨⟨1078, rfl⟩, ⟨179, rfl⟩, z_g4, by decide, Or.inl ⟨rfl, ⟨1076, rfl⟩, ⟨0, rfl, z_d1⟩, _, _, _, 1077, rfl, rfl⟩⟩
set_option maxRecDepth 100000 in
theorem z_m143 : z_mPr 0 143 2 1 := ⟨⟨1082, rfl⟩, ⟨180, rfl⟩, z_g1, by decide, Or.inl ⟨rfl, ⟨1080, rfl⟩, ⟨1, rfl, z_d5⟩, _, _, _, 1081, rfl, rfl⟩⟩
set_option maxRecDepth 100000 in
theorem z_m144 : z_mPr 0 144 3 1 := ⟨⟨1086, rfl⟩, ⟨180, rfl⟩, z_g1, by decide, Or.inl ⟨rfl, ⟨1085, rfl⟩, ⟨2, rfl, z_d8⟩, _, _, _, 47, rfl, rfl⟩⟩
set_option maxRecDepth 100000 in
theorem z_m145 : z_mPr 0 145 2 8 := ⟨⟨1090, rfl⟩, ⟨177, rfl⟩, z_g8, by decide, Or.inl ⟨rfl, ⟨1088, rfl⟩, ⟨1, rfl, z_d5⟩, _, _, _, 1089, rfl, rfl⟩⟩
set_option maxRecDepth 100000 in
theorem z_m146 : z_mPr 0 146 3 1 := ⟨⟨1094, rfl⟩, ⟨180, rfl⟩, z_g1, by decide, Or.inl ⟨rfl, ⟨1093, rfl⟩, ⟨2, rfl, z_d9⟩, _, _, _, 48, rfl, rfl⟩⟩
set_option maxRecDepth 100000 in
theorem z_m147 : z_mPr 0 147 2 1 := ⟨⟨1098, rfl⟩, ⟨180, rfl⟩, z_g1, by decide, Or.inl ⟨rfl, ⟨1097, rfl⟩, ⟨1, rfl, z_d6⟩, _, _, _, 49, rfl, rfl⟩⟩
set_option maxRecDepth 100000 in
theorem z_m148 : z_mPr 0 148 5 1 := ⟨⟨1103, rfl⟩, ⟨180, rfl⟩, z_g1, by decide, Or.inl ⟨rfl, ⟨1102, rfl⟩, ⟨4, rfl, z_d15⟩, _, _, _, 50, rfl, rfl⟩⟩
set_option maxRecDepth 100000 in
theorem z_m149 : z_mPr 0 149 5 2 := ⟨⟨1107, rfl⟩, ⟨176, rfl⟩, z_g2, by decide, Or.inl ⟨rfl, ⟨1105, rfl⟩, ⟨4, rfl, z_d14⟩, _, _, _, 1106, rfl, rfl⟩⟩
set_option maxRecDepth 100000 in
theorem z_m150 : z_mPr 0 150 2 1 := ⟨⟨1111, rfl⟩, ⟨180, rfl⟩, z_g1, by decide, Or.inl ⟨rfl, ⟨1110, rfl⟩, ⟨1, rfl, z_d6⟩, _, _, _, 51, rfl, rfl⟩⟩
set_option maxRecDepth 100000 in
theorem z_m151 : z_mPr 0 151 3 2 := ⟨⟨1115, rfl⟩, ⟨176, rfl⟩, z_g2, by decide, Or.inl ⟨rfl, ⟨1113, rfl⟩, ⟨2, rfl, z_d9⟩, _, _, _, 1114, rfl, rfl⟩⟩
set_option maxRecDepth 100000 in
theorem z_m152 : z_mPr 0 152 2 8 := ⟨⟨1119, rfl⟩, ⟨177, rfl⟩, z_g8, by decide, Or.inl ⟨rfl, ⟨1117, rfl⟩, ⟨1, rfl, z_d5⟩, _, _, _, 1118, rfl, rfl⟩⟩
set_option maxRecDepth 100000 in
theorem z_m153 : z_mPr 0 153 3 1 := ⟨⟨1123, rfl⟩, ⟨180, rfl⟩, z_g1, by decide, Or.inl ⟨rfl, ⟨1122, rfl⟩, ⟨2, rfl, z_d9⟩, _, _, _, 52, rfl, rfl⟩⟩
set_option maxRecDepth 100000 in
theorem z_m154 : z_mPr 0 154 2 1 := ⟨⟨1127, rfl⟩, ⟨180, rfl⟩, z_g1, by decide, Or.inl ⟨rfl, ⟨1126, rfl⟩, ⟨1, rfl, z_d7⟩, _, _, _, 53, rfl, rfl⟩⟩
set_option maxRecDepth 100000 in
theorem z_m155 : z_mPr 0 155 2 5 := ⟨⟨1131, rfl⟩, ⟨178, rfl⟩, z_g5, by decide, Or.inl ⟨rfl, ⟨1129, rfl⟩, ⟨1, rfl, z_d5⟩, _, _, _, 1130, rfl, rfl⟩⟩
set_option maxRecDepth 100000 in
theorem z_m156 : z_mPr 0 156 3 1 := ⟨⟨1135, rfl⟩, ⟨180, rfl⟩, z_g1, by decide, Or.inl ⟨rfl, ⟨1134, rfl⟩, ⟨2, rfl, z_d9⟩, _, _, _, 54, rfl, rfl⟩⟩
set_option maxRecDepth 100000 in
theorem z_m157 : z_mPr 0 157 3 1 := ⟨⟨1139, rfl⟩, ⟨180, rfl⟩, z_g1, by decide, Or.inl ⟨rfl, ⟨1138, rfl⟩, ⟨2, rfl, z_d9⟩, _, _, _, 55, rfl, rfl⟩⟩
set_option maxRecDepth 100000 in
theorem z_m158 : z_mPr 0 158 2 1 := ⟨⟨1143, rfl⟩, ⟨180, rfl⟩, z_g1, by decide, Or.inl ⟨rfl, ⟨1142, rfl⟩, ⟨1, rfl, z_d5⟩, _, _, _, 56, rfl, rfl⟩⟩
set_option maxRecDepth 100000 in
theorem z_m159 : z_mPr 0 159 1 1 := ⟨⟨1147, rfl⟩, ⟨180, rfl⟩, z_g1, by decide, Or.inl ⟨rfl, ⟨1146, rfl⟩, ⟨0, rfl, z_d1⟩, _, _, _, 57, rfl, rfl⟩⟩
set_option maxRecDepth 100000 in
theorem z_m160 : z_mPr 0 160 3 8 := ⟨⟨1153, rfl⟩, ⟨177, rfl⟩, z_g8, by decide, Or.inl ⟨rfl, ⟨1151, rfl⟩, ⟨2, rfl, z_d9⟩, _, _, _, 1152, rfl, rfl⟩⟩
