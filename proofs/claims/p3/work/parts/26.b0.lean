set_option maxRecDepth 100000 in
theorem z_m1 : z_mPr 2 1 1 0 := ⟨⟨194, rfl⟩, ⟨167, rfl⟩, z_g0, by decide, Or.inr (Or.inr (Or.inr ⟨rfl, ⟨193, rfl⟩, ⟨0, rfl, z_d2⟩, rfl, rfl, rfl⟩))⟩
set_option maxRecDepth 100000 in
theorem z_m3 : z_mPr 2 3 1 6 := ⟨⟨202, rfl⟩, ⟨168, rfl⟩, z_g6, by decide, Or.inr (Or.inr (Or.inr ⟨rfl, ⟨201, rfl⟩, ⟨0, rfl, z_d2⟩, rfl, rfl, rfl⟩))⟩
set_option maxRecDepth 100000 in
theorem z_m4 : z_mPr 2 4 1 3 := ⟨⟨216, rfl⟩, ⟨169, rfl⟩, z_g3, by decide, Or.inr (Or.inr (Or.inr ⟨rfl, ⟨215, rfl⟩, ⟨0, rfl, z_d2⟩, rfl, rfl, rfl⟩))⟩
set_option maxRecDepth 100000 in
theorem z_m5 : z_mPr 1 5 2 0 := ⟨⟨220, rfl⟩, ⟨170, rfl⟩, z_g15, by decide, Or.inr (Or.inr (Or.inl ⟨rfl, ⟨219, rfl⟩, z_d32, rfl⟩))⟩
set_option maxRecDepth 100000 in
theorem z_m6 : z_mPr 0 6 4 3 := ⟨⟨225, rfl⟩, ⟨169, rfl⟩, z_g3, by decide, Or.inl ⟨rfl, ⟨224, rfl⟩, ⟨3, rfl, z_d26⟩, _, _, _, 0, rfl, rfl⟩⟩
set_option maxRecDepth 100000 in
theorem z_m7 : z_mPr 0 7 1 3 := ⟨⟨229, rfl⟩, ⟨169, rfl⟩, z_g3, by decide, Or.inl ⟨rfl, ⟨227, rfl⟩, ⟨0, rfl, z_d2⟩, _, _, _, 228, rfl, rfl⟩⟩
set_option maxRecDepth 100000 in
theorem z_m8 : z_mPr 4 8 1 100 := ⟨⟨233, rfl⟩, ⟨171, rfl⟩, z_g12, by decide, Or.inr (Or.inl ⟨rfl, ⟨231, rfl⟩, ⟨0, rfl, z_d1⟩, rfl, 232, rfl⟩)⟩
set_option maxRecDepth 100000 in
theorem z_m9 : z_mPr 4 9 1 100 := ⟨⟨237, rfl⟩, ⟨171, rfl⟩, z_g12, by decide, Or.inr (Or.inl ⟨rfl, ⟨235, rfl⟩, ⟨0, rfl, z_d0⟩, rfl, 236, rfl⟩)⟩
set_option maxRecDepth 100000 in
theorem z_m10 : z_mPr 4 10 2 100 := ⟨⟨243, rfl⟩, ⟨171, rfl⟩, z_g12, by decide, Or.inr (Or.inl ⟨rfl, ⟨241, rfl⟩, ⟨1, rfl, z_d4⟩, rfl, 242, rfl⟩)⟩
set_option maxRecDepth 100000 in
theorem z_m11 : z_mPr 4 11 1 100 := ⟨⟨247, rfl⟩, ⟨171, rfl⟩, z_g12, by decide, Or.inr (Or.inl ⟨rfl, ⟨245, rfl⟩, ⟨0, rfl, z_d3⟩, rfl, 246, rfl⟩)⟩
set_option maxRecDepth 100000 in
theorem z_m12 : z_mPr 1 12 2 0 := ⟨⟨250, rfl⟩, ⟨172, rfl⟩, z_g13, by decide, Or.inr (Or.inr (Or.inl ⟨rfl, ⟨249, rfl⟩, z_d29, rfl⟩))⟩
set_option maxRecDepth 100000 in
theorem z_m13 : z_mPr 1 13 2 0 := ⟨⟨253, rfl⟩, ⟨171, rfl⟩, z_g12, by decide, Or.inr (Or.inr (Or.inl ⟨rfl, ⟨252, rfl⟩, z_d9, rfl⟩))⟩
set_option maxRecDepth 100000 in
theorem z_m14 : z_mPr 1 14 3 0 := ⟨⟨258, rfl⟩, ⟨173, rfl⟩, z_g16, by decide, Or.inr (Or.inr (Or.inl ⟨rfl, ⟨257, rfl⟩, z_d18, rfl⟩))⟩
set_option maxRecDepth 100000 in
theorem z_m15 : z_mPr 1 15 2 0 := ⟨⟨261, rfl⟩, ⟨174, rfl⟩, z_g14, by decide, Or.inr (Or.inr (Or.inl ⟨rfl, ⟨260, rfl⟩, z_d29, rfl⟩))⟩
set_option maxRecDepth 100000 in
theorem z_m16 : z_mPr 1 16 2 0 := ⟨⟨264, rfl⟩, ⟨174, rfl⟩, z_g14, by decide, Or.inr (Or.inr (Or.inl ⟨rfl, ⟨263, rfl⟩, z_d20, rfl⟩))⟩
set_option maxRecDepth 100000 in
theorem z_m17 : z_mPr 1 17 1 0 := ⟨⟨267, rfl⟩, ⟨174, rfl⟩, z_g14, by decide, Or.inr (Or.inr (Or.inl ⟨rfl, ⟨266, rfl⟩, z_d28, rfl⟩))⟩
set_option maxRecDepth 100000 in
theorem z_m18 : z_mPr 1 18 2 0 := ⟨⟨271, rfl⟩, ⟨174, rfl⟩, z_g14, by decide, Or.inr (Or.inr (Or.inl ⟨rfl, ⟨270, rfl⟩, z_d29, rfl⟩))⟩
set_option maxRecDepth 100000 in
theorem z_m19 : z_mPr 0 19 2 3 := ⟨⟨281, rfl⟩, ⟨169, rfl⟩, z_g3, by decide, Or.inl ⟨rfl, ⟨279, rfl⟩, ⟨1, rfl, z_d5⟩, _, _, _, 280, rfl, rfl⟩⟩
set_option maxRecDepth 100000 in
theorem z_m20 : z_mPr 0 20 1 3 := ⟨⟨285, rfl⟩, ⟨169, rfl⟩, z_g3, by decide, Or.inl ⟨rfl, ⟨284, rfl⟩, ⟨0, rfl, z_d1⟩, _, _, _, 1, rfl, rfl⟩⟩
set_option maxRecDepth 100000 in
theorem z_m21 : z_mPr 1 21 2 0 := ⟨⟨288, rfl⟩, ⟨167, rfl⟩, z_g0, by decide, Or.inr (Or.inr (Or.inl ⟨rfl, ⟨287, rfl⟩, z_d31, rfl⟩))⟩
set_option maxRecDepth 100000 in
theorem z_m22 : z_mPr 0 22 2 3 := ⟨⟨292, rfl⟩, ⟨169, rfl⟩, z_g3, by decide, Or.inl ⟨rfl, ⟨291, rfl⟩, ⟨1, rfl, z_d7⟩, _, _, _, 2, rfl, rfl⟩⟩
set_option maxRecDepth 100000 in
theorem z_m23 : z_mPr 0 23 2 3 := ⟨⟨296, rfl⟩, ⟨169, rfl⟩, z_g3, by decide, Or.inl ⟨rfl, ⟨294, rfl⟩, ⟨1, rfl, z_d5⟩, _, _, _, 295, rfl, rfl⟩⟩
set_option maxRecDepth 100000 in
theorem z_m24 : z_mPr 0 24 3 3 := ⟨⟨300, rfl⟩, ⟨169, rfl⟩, z_g3, by decide, Or.inl ⟨rfl, ⟨299, rfl⟩, ⟨2, rfl, z_d8⟩, _, _, _, 3, rfl, rfl⟩⟩
set_option maxRecDepth 100000 in
theorem z_m25 : z_mPr 1 25 3 0 := ⟨⟨303, rfl⟩, ⟨167, rfl⟩, z_g0, by decide, Or.inr (Or.inr (Or.inl ⟨rfl, ⟨302, rfl⟩, z_d33, rfl⟩))⟩
set_option maxRecDepth 100000 in
theorem z_m26 : z_mPr 0 26 2 3 := ⟨⟨307, rfl⟩, ⟨169, rfl⟩, z_g3, by decide, Or.inl ⟨rfl, ⟨305, rfl⟩, ⟨1, rfl, z_d6⟩, _, _, _, 306, rfl, rfl⟩⟩
set_option maxRecDepth 100000 in
theorem z_m27 : z_mPr 2 27 3 7 := ⟨⟨349, rfl⟩, ⟨175, rfl⟩, z_g7, by decide, Or.inr (Or.inr (Or.inr ⟨rfl, ⟨348, rfl⟩, ⟨2, rfl, z_d23⟩, rfl, rfl, rfl⟩))⟩
set_option maxRecDepth 100000 in
theorem z_m28 : z_mPr 2 28 2 2 := ⟨⟨383, rfl⟩, ⟨176, rfl⟩, z_g2, by decide, Or.inr (Or.inr (Or.inr ⟨rfl, ⟨382, rfl⟩, ⟨1, rfl, z_d22⟩, rfl, rfl, rfl⟩))⟩
set_option maxRecDepth 100000 in
theorem z_m29 : z_mPr 0 29 1 2 := ⟨⟨388, rfl⟩, ⟨176, rfl⟩, z_g2, by decide, Or.inl ⟨rfl, ⟨386, rfl⟩, ⟨0, rfl, z_d2⟩, _, _, _, 387, rfl, rfl⟩⟩
set_option maxRecDepth 100000 in
theorem z_m30 : z_mPr 0 30 2 3 := ⟨⟨392, rfl⟩, ⟨169, rfl⟩, z_g3, by decide, Or.inl ⟨rfl, ⟨390, rfl⟩, ⟨1, rfl, z_d5⟩, _, _, _, 391, rfl, rfl⟩⟩
set_option maxRecDepth 100000 in
theorem z_m31 : z_mPr 0 31 2 2 := ⟨⟨396, rfl⟩, ⟨176, rfl⟩, z_g2, by decide, Or.inl ⟨rfl, ⟨394, rfl⟩, ⟨1, rfl, z_d5⟩, _, _, _, 395, rfl, rfl⟩⟩
set_option maxRecDepth 100000 in
theorem z_m32 : z_mPr 2 32 1 8 := ⟨⟨442, rfl⟩, ⟨177, rfl⟩, z_g8, by decide, Or.inr (Or.inr (Or.inr ⟨rfl, ⟨441, rfl⟩, ⟨0, rfl, z_d2⟩, rfl, rfl, rfl⟩))⟩
set_option maxRecDepth 100000 in
theorem z_m33 : z_mPr 2 33 2 5 := ⟨⟨470, rfl⟩, ⟨178, rfl⟩, z_g5, by decide, Or.inr (Or.inr (Or.inr ⟨rfl, ⟨469, rfl⟩, ⟨1, rfl, z_d22⟩, rfl, rfl, rfl⟩))⟩
set_option maxRecDepth 100000 in
theorem z_m34 : z_mPr 2 34 5 4 := ⟨⟨495, rfl⟩, ⟨179, rfl⟩, z_g4, by decide, Or.inr (Or.inr (Or.inr ⟨rfl, ⟨494, rfl⟩, ⟨4, rfl, z_d24⟩, rfl, rfl, rfl⟩))⟩
set_option maxRecDepth 100000 in
theorem z_m35 : z_mPr 2 35 4 1 := ⟨⟨532, rfl⟩, ⟨180, rfl⟩, z_g1, by decide, Or.inr (Or.inr (Or.inr ⟨rfl, ⟨531, rfl⟩, ⟨3, rfl, z_d25⟩, rfl, rfl, rfl⟩))⟩
set_option maxRecDepth 100000 in
theorem z_m36 : z_mPr 0 36 1 0 := ⟨⟨568, rfl⟩, ⟨167, rfl⟩, z_g0, by decide, Or.inl ⟨rfl, ⟨567, rfl⟩, ⟨0, rfl, z_d2⟩, _, _, _, 4, rfl, rfl⟩⟩
set_option maxRecDepth 100000 in
theorem z_m37 : z_mPr 0 37 2 0 := ⟨⟨606, rfl⟩, ⟨167, rfl⟩, z_g0, by decide, Or.inl ⟨rfl, ⟨604, rfl⟩, ⟨1, rfl, z_d21⟩, _, _, _, 605, rfl, rfl⟩⟩
set_option maxRecDepth 100000 in
theorem z_m38 : z_mPr 0 38 2 6 := ⟨⟨610, rfl⟩, ⟨168, rfl⟩, z_g6, by decide, Or.inl ⟨rfl, ⟨608, rfl⟩, ⟨1, rfl, z_d21⟩, _, _, _, 609, rfl, rfl⟩⟩
set_option maxRecDepth 100000 in
theorem z_m39 : z_mPr 1 39 1 0 := ⟨⟨613, rfl⟩, ⟨168, rfl⟩, z_g6, by decide, Or.inr (Or.inr (Or.inl ⟨rfl, ⟨612, rfl⟩, z_d21, rfl⟩))⟩
set_option maxRecDepth 100000 in
theorem z_m40 : z_mPr 0 40 2 0 := ⟨⟨618, rfl⟩, ⟨167, rfl⟩, z_g0, by decide, Or.inl ⟨rfl, ⟨616, rfl⟩, ⟨1, rfl, z_d5⟩, _, _, _, 617, rfl, rfl⟩⟩
set_option maxRecDepth 100000 in
theorem z_m41 : z_mPr 0 41 2 6 := ⟨⟨622, rfl⟩, ⟨168, rfl⟩, z_g6, by decide, Or.inl ⟨rfl, ⟨620, rfl⟩, ⟨1, rfl, z_d5⟩, _, _, _, 621, rfl, rfl⟩⟩
set_option maxRecDepth 100000 in
theorem z_m42 : z_mPr 0 42 1 7 := ⟨⟨632, rfl⟩, ⟨175, rfl⟩, z_g7, by decide, Or.inl ⟨rfl, ⟨630, rfl⟩, ⟨0, rfl, z_d2⟩, _, _, _, 631, rfl, rfl⟩⟩
set_option maxRecDepth 100000 in
theorem z_m43 : z_mPr 0 43 1 3 := ⟨⟨636, rfl⟩, ⟨169, rfl⟩, z_g3, by decide, Or.inl ⟨rfl, ⟨634, rfl⟩, ⟨0, rfl, z_d2⟩, _, _, _, 635, rfl, rfl⟩⟩
set_option maxRecDepth 100000 in
theorem z_m44 : z_mPr 0 44 2 7 := ⟨⟨640, rfl⟩, ⟨175, rfl⟩, z_g7, by decide, Or.inl ⟨rfl, ⟨639, rfl⟩, ⟨1, rfl, z_d5⟩, _, _, _, 5, rfl, rfl⟩⟩
set_option maxRecDepth 100000 in
theorem z_m45 : z_mPr 0 45 1 6 := ⟨⟨644, rfl⟩, ⟨168, rfl⟩, z_g6, by decide, Or.inl ⟨rfl, ⟨642, rfl⟩, ⟨0, rfl, z_d1⟩, _, _, _, 643, rfl, rfl⟩⟩
set_option maxRecDepth 100000 in
theorem z_m46 : z_mPr 0 46 2 6 := ⟨⟨648, rfl⟩, ⟨168, rfl⟩, z_g6, by decide, Or.inl ⟨rfl, ⟨646, rfl⟩, ⟨1, rfl, z_d5⟩, _, _, _, 647, rfl, rfl⟩⟩
set_option maxRecDepth 100000 in
theorem z_m47 : z_mPr 0 47 2 7 := ⟨⟨652, rfl⟩, ⟨175, rfl⟩, z_g7, by decide, Or.inl ⟨rfl, ⟨651, rfl⟩, ⟨1, rfl, z_d6⟩, _, _, _, 6, rfl, rfl⟩⟩
set_option maxRecDepth 100000 in
theorem z_m48 : z_mPr 0 48 3 7 := ⟨⟨656, rfl⟩, ⟨175, rfl⟩, z_g7, by decide, Or.inl ⟨rfl, ⟨655, rfl⟩, ⟨2, rfl, z_d9⟩, _, _, _, 7, rfl, rfl⟩⟩
set_option maxRecDepth 100000 in
theorem z_m49 : z_mPr 0 49 2 7 := ⟨⟨660, rfl⟩, ⟨175, rfl⟩, z_g7, by decide, Or.inl ⟨rfl, ⟨659, rfl⟩, ⟨1, rfl, z_d5⟩, _, _, _, 8, rfl, rfl⟩⟩
set_option maxRecDepth 100000 in
theorem z_m50 : z_mPr 1 50 1 0 := ⟨⟨663, rfl⟩, ⟨175, rfl⟩, z_g7, by decide, Or.inr (Or.inr (Or.inl ⟨rfl, ⟨662, rfl⟩, z_d7, rfl⟩))⟩
set_option maxRecDepth 100000 in
theorem z_m51 : z_mPr 1 51 1 0 := ⟨⟨666, rfl⟩, ⟨175, rfl⟩, z_g7, by decide, Or.inr (Or.inr (Or.inl ⟨rfl, ⟨665, rfl⟩, z_d7, rfl⟩))⟩
set_option maxRecDepth 100000 in
theorem z_m52 : z_mPr 0 52 4 7 := ⟨⟨670, rfl⟩, ⟨175, rfl⟩, z_g7, by decide, Or.inl ⟨rfl, ⟨669, rfl⟩, ⟨3, rfl, z_d12⟩, _, _, _, 9, rfl, rfl⟩⟩
set_option maxRecDepth 100000 in
theorem z_m53 : z_mPr 0 53 2 3 := ⟨⟨678, rfl⟩, ⟨169, rfl⟩, z_g3, by decide, Or.inl ⟨rfl, ⟨676, rfl⟩, ⟨1, rfl, z_d5⟩, _, _, _, 677, rfl, rfl⟩⟩
set_option maxRecDepth 100000 in
theorem z_m54 : z_mPr 0 54 2 3 := ⟨⟨682, rfl⟩, ⟨169, rfl⟩, z_g3, by decide, Or.inl ⟨rfl, ⟨680, rfl⟩, ⟨1, rfl, z_d5⟩, _, _, _, 681, rfl, rfl⟩⟩
set_option maxRecDepth 100000 in
theorem z_m55 : z_mPr 0 55 2 7 := ⟨⟨686, rfl⟩, ⟨175, rfl⟩, z_g7, by decide, Or.inl ⟨rfl, ⟨685, rfl⟩, ⟨1, rfl, z_d6⟩, _, _, _, 10, rfl, rfl⟩⟩
set_option maxRecDepth 100000 in
theorem z_m57 : z_mPr 0 57 2 7 := ⟨⟨698, rfl⟩, ⟨175, rfl⟩, z_g7, by decide, Or.inl ⟨rfl, ⟨697, rfl⟩, ⟨1, rfl, z_d6⟩, _, _, _, 11, rfl, rfl⟩⟩
set_option maxRecDepth 100000 in
theorem z_m58 : z_mPr 4 58 2 100 := ⟨⟨703, rfl⟩, ⟨171, rfl⟩, z_g12, by decide, Or.inr (Or.inl ⟨rfl, ⟨701, rfl⟩, ⟨1, rfl, z_d5⟩, rfl, 702, rfl⟩)⟩
set_option maxRecDepth 100000 in
theorem z_m59 : z_mPr 4 59 3 100 := ⟨⟨707, rfl⟩, ⟨171, rfl⟩, z_g12, by decide, Or.inr (Or.inl ⟨rfl, ⟨705, rfl⟩, ⟨2, rfl, z_d8⟩, rfl, 706, rfl⟩)⟩
set_option maxRecDepth 100000 in
theorem z_m60 : z_mPr 1 60 4 0 := ⟨⟨711, rfl⟩, ⟨172, rfl⟩, z_g13, by decide, Or.inr (Or.inr (Or.inl ⟨rfl, ⟨710, rfl⟩, z_d30, rfl⟩))⟩
set_option maxRecDepth 100000 in
theorem z_m61 : z_mPr 1 61 1 0 := ⟨⟨714, rfl⟩, ⟨172, rfl⟩, z_g13, by decide, Or.inr (Or.inr (Or.inl ⟨rfl, ⟨713, rfl⟩, z_d7, rfl⟩))⟩
set_option maxRecDepth 100000 in
theorem z_m64 : z_mPr 1 64 4 0 := ⟨⟨723, rfl⟩, ⟨172, rfl⟩, z_g13, by decide, Or.inr (Or.inr (Or.inl ⟨rfl, ⟨722, rfl⟩, z_d30, rfl⟩))⟩
set_option maxRecDepth 100000 in
theorem z_m65 : z_mPr 1 65 4 0 := ⟨⟨726, rfl⟩, ⟨174, rfl⟩, z_g14, by decide, Or.inr (Or.inr (Or.inl ⟨rfl, ⟨725, rfl⟩, z_d30, rfl⟩))⟩
set_option maxRecDepth 100000 in
theorem z_m66 : z_mPr 1 66 4 0 := ⟨⟨732, rfl⟩, ⟨174, rfl⟩, z_g14, by decide, Or.inr (Or.inr (Or.inl ⟨rfl, ⟨731, rfl⟩, z_d30, rfl⟩))⟩
set_option maxRecDepth 100000 in
theorem z_m67 : z_mPr 1 67 3 0 := ⟨⟨735, rfl⟩, ⟨174, rfl⟩, z_g14, by decide, Or.inr (Or.inr (Or.inl ⟨rfl, ⟨734, rfl⟩, z_d19, rfl⟩))⟩
set_option maxRecDepth 100000 in
theorem z_m68 : z_mPr 1 68 3 0 := ⟨⟨738, rfl⟩, ⟨171, rfl⟩, z_g12, by decide, Or.inr (Or.inr (Or.inl ⟨rfl, ⟨737, rfl⟩, z_d12, rfl⟩))⟩
set_option maxRecDepth 100000 in
theorem z_m69 : z_mPr 1 69 4 0 := ⟨⟨741, rfl⟩, ⟨173, rfl⟩, z_g16, by decide, Or.inr (Or.inr (Or.inl ⟨rfl, ⟨740, rfl⟩, z_d17, rfl⟩))⟩
set_option maxRecDepth 100000 in
theorem z_m70 : z_mPr 1 70 4 0 := ⟨⟨744, rfl⟩, ⟨174, rfl⟩, z_g14, by decide, Or.inr (Or.inr (Or.inl ⟨rfl, ⟨743, rfl⟩, z_d30, rfl⟩))⟩
set_option maxRecDepth 100000 in
theorem z_m71 : z_mPr 1 71 4 0 := ⟨⟨747, rfl⟩, ⟨174, rfl⟩, z_g14, by decide, Or.inr (Or.inr (Or.inl ⟨rfl, ⟨746, rfl⟩, z_d30, rfl⟩))⟩
set_option maxRecDepth 100000 in
theorem z_m72 : z_mPr 1 72 1 0 := ⟨⟨750, rfl⟩, ⟨189, rfl⟩, z_g11, by decide, Or.inr (Or.inr (Or.inl ⟨rfl, ⟨749, rfl⟩, z_d7, rfl⟩))⟩
set_option maxRecDepth 100000 in
theorem z_m73 : z_mPr 1 73 1 0 := ⟨⟨753, rfl⟩, ⟨189, rfl⟩, z_g11, by decide, Or.inr (Or.inr (Or.inl ⟨rfl, ⟨752, rfl⟩, z_d4, rfl⟩))⟩
set_option maxRecDepth 100000 in
theorem z_m74 : z_mPr 1 74 1 0 := ⟨⟨757, rfl⟩, ⟨189, rfl⟩, z_g11, by decide, Or.inr (Or.inr (Or.inl ⟨rfl, ⟨756, rfl⟩, z_d4, rfl⟩))⟩
set_option maxRecDepth 100000 in
theorem z_m75 : z_mPr 0 75 1 4 := ⟨⟨762, rfl⟩, ⟨179, rfl⟩, z_g4, by decide, Or.inl ⟨rfl, ⟨760, rfl⟩, ⟨0, rfl, z_d1⟩, _, _, _, 761, rfl, rfl⟩⟩
set_option maxRecDepth 100000 in
theorem z_m76 : z_mPr 0 76 1 8 := ⟨⟨766, rfl⟩, ⟨177, rfl⟩, z_g8, by decide, Or.inl ⟨rfl, ⟨764, rfl⟩, ⟨0, rfl, z_d2⟩, _, _, _, 765, rfl, rfl⟩⟩
set_option maxRecDepth 100000 in
theorem z_m77 : z_mPr 0 77 1 5 := ⟨⟨770, rfl⟩, ⟨178, rfl⟩, z_g5, by decide, Or.inl ⟨rfl, ⟨768, rfl⟩, ⟨0, rfl, z_d2⟩, _, _, _, 769, rfl, rfl⟩⟩
set_option maxRecDepth 100000 in
theorem z_m78 : z_mPr 0 78 2 5 := ⟨⟨776, rfl⟩, ⟨178, rfl⟩, z_g5, by decide, Or.inl ⟨rfl, ⟨774, rfl⟩, ⟨1, rfl, z_d5⟩, _, _, _, 775, rfl, rfl⟩⟩
set_option maxRecDepth 100000 in
theorem z_m79 : z_mPr 0 79 3 5 := ⟨⟨780, rfl⟩, ⟨178, rfl⟩, z_g5, by decide, Or.inl ⟨rfl, ⟨778, rfl⟩, ⟨2, rfl, z_d9⟩, _, _, _, 779, rfl, rfl⟩⟩
set_option maxRecDepth 100000 in
theorem z_m80 : z_mPr 0 80 1 4 := ⟨⟨785, rfl⟩, ⟨179, rfl⟩, z_g4, by decide, Or.inl ⟨rfl, ⟨784, rfl⟩, ⟨0, rfl, z_d2⟩, _, _, _, 12, rfl, rfl⟩⟩
