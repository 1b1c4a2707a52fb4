/-! ONE: the law with one call. -/
def z_long (a b : Int32) : Int64 := (a.toInt64 <<< ((32 : Int32).toInt64 &&& 63)) ||| (b.toInt64 &&& 4294967295)
set_option maxRecDepth 100000 in
theorem z_short0 {xs : Nat → Int32} : q_Runs q_KL (z_P 0 xs) 1300 0 (18, [(3, .int 0), (2, .ref 43), (1, .ref 0), (0, .ref 1900000)], [], z_m_c95) (.inl (some (.int 1)), z_m_c95) := q_Runs.adv (n := 7) (F' := (375, [(3, .int 0), (2, .ref 43), (1, .ref 0), (0, .ref 1900000)], [.int 1], z_m_c95)) rfl (q_Runs.fin rfl)
set_option maxRecDepth 100000 in
theorem z_short1 {xs : Nat → Int32} : q_Runs q_KL (z_P 1 xs) 1300 0 (18, [(3, .int 0), (2, .ref 43), (1, .ref 0), (0, .ref 1900000)], [], z_m_c95) (.inl (some (.int 1)), z_m_c95) := q_Runs.adv (n := 7) (F' := (375, [(3, .int 0), (2, .ref 43), (1, .ref 0), (0, .ref 1900000)], [.int 1], z_m_c95)) rfl (q_Runs.fin rfl)
set_option maxRecDepth 100000 in
theorem z_short2 {xs : Nat → Int32} : q_Runs q_KL (z_P 2 xs) 1300 0 (18, [(3, .int 0), (2, .ref 43), (1, .ref 0), (0, .ref 1900000)], [], z_m_c95) (.inl (some (.int 1)), z_m_c95) := q_Runs.adv (n := 7) (F' := (375, [(3, .int 0), (2, .ref 43), (1, .ref 0), (0, .ref 1900000)], [.int 1], z_m_c95)) rfl (q_Runs.fin rfl)
set_option maxRecDepth 100000 in
theorem z_done10 {xs : Nat → Int32} (h0 : xs 0 &&& 15 = 10) : q_Runs q_KL (z_P 3 xs) 1300 0 (18, [(3, .int 0), (2, .ref 43), (1, .ref 0), (0, .ref 1900000)], [], z_m_c95) (.inl (some (.int 1)), z_m_c95) := q_Runs.adv (n := 11) (F' := (32, [(3, .int 0), (2, .ref 43), (1, .ref 0), (0, .ref 1900000)], [.int (xs 0 &&& 15)], z_m_c95)) rfl (q_Runs.cast (F' := (32, [(3, .int 0), (2, .ref 43), (1, .ref 0), (0, .ref 1900000)], [.int 10], z_m_c95)) (by rw [h0]) (q_Runs.adv (n := 10) (F' := (375, [(3, .int 3), (2, .ref 43), (1, .ref 0), (0, .ref 1900000)], [.int 1], z_m_c95)) rfl (q_Runs.fin rfl)))
set_option maxRecDepth 100000 in
theorem z_done11 {xs : Nat → Int32} (h0 : xs 0 &&& 15 = 11) : q_Runs q_KL (z_P 3 xs) 1300 0 (18, [(3, .int 0), (2, .ref 43), (1, .ref 0), (0, .ref 1900000)], [], z_m_c95) (.inl (some (.int 1)), z_m_c95) := q_Runs.adv (n := 11) (F' := (32, [(3, .int 0), (2, .ref 43), (1, .ref 0), (0, .ref 1900000)], [.int (xs 0 &&& 15)], z_m_c95)) rfl (q_Runs.cast (F' := (32, [(3, .int 0), (2, .ref 43), (1, .ref 0), (0, .ref 1900000)], [.int 11], z_m_c95)) (by rw [h0]) (q_Runs.adv (n := 10) (F' := (375, [(3, .int 3), (2, .ref 43), (1, .ref 0), (0, .ref 1900000)], [.int 1], z_m_c95)) rfl (q_Runs.fin rfl)))
set_option maxRecDepth 100000 in
theorem z_done12 {xs : Nat → Int32} (h0 : xs 0 &&& 15 = 12) : q_Runs q_KL (z_P 3 xs) 1300 0 (18, [(3, .int 0), (2, .ref 43), (1, .ref 0), (0, .ref 1900000)], [], z_m_c95) (.inl (some (.int 1)), z_m_c95) := q_Runs.adv (n := 11) (F' := (32, [(3, .int 0), (2, .ref 43), (1, .ref 0), (0, .ref 1900000)], [.int (xs 0 &&& 15)], z_m_c95)) rfl (q_Runs.cast (F' := (32, [(3, .int 0), (2, .ref 43), (1, .ref 0), (0, .ref 1900000)], [.int 12], z_m_c95)) (by rw [h0]) (q_Runs.adv (n := 10) (F' := (375, [(3, .int 3), (2, .ref 43), (1, .ref 0), (0, .ref 1900000)], [.int 1], z_m_c95)) rfl (q_Runs.fin rfl)))
set_option maxRecDepth 100000 in
theorem z_done13 {xs : Nat → Int32} (h0 : xs 0 &&& 15 = 13) : q_Runs q_KL (z_P 3 xs) 1300 0 (18, [(3, .int 0), (2, .ref 43), (1, .ref 0), (0, .ref 1900000)], [], z_m_c95) (.inl (some (.int 1)), z_m_c95) := q_Runs.adv (n := 11) (F' := (32, [(3, .int 0), (2, .ref 43), (1, .ref 0), (0, .ref 1900000)], [.int (xs 0 &&& 15)], z_m_c95)) rfl (q_Runs.cast (F' := (32, [(3, .int 0), (2, .ref 43), (1, .ref 0), (0, .ref 1900000)], [.int 13], z_m_c95)) (by rw [h0]) (q_Runs.adv (n := 10) (F' := (375, [(3, .int 3), (2, .ref 43), (1, .ref 0), (0, .ref 1900000)], [.int 1], z_m_c95)) rfl (q_Runs.fin rfl)))
set_option maxRecDepth 100000 in
theorem z_done14 {xs : Nat → Int32} (h0 : xs 0 &&& 15 = 14) : q_Runs q_KL (z_P 3 xs) 1300 0 (18, [(3, .int 0), (2, .ref 43), (1, .ref 0), (0, .ref 1900000)], [], z_m_c95) (.inl (some (.int 1)), z_m_c95) := q_Runs.adv (n := 11) (F' := (32, [(3, .int 0), (2, .ref 43), (1, .ref 0), (0, .ref 1900000)], [.int (xs 0 &&& 15)], z_m_c95)) rfl (q_Runs.cast (F' := (32, [(3, .int 0), (2, .ref 43), (1, .ref 0), (0, .ref 1900000)], [.int 14], z_m_c95)) (by rw [h0]) (q_Runs.adv (n := 10) (F' := (375, [(3, .int 3), (2, .ref 43), (1, .ref 0), (0, .ref 1900000)], [.int 1], z_m_c95)) rfl (q_Runs.fin rfl)))
set_option maxRecDepth 100000 in
theorem z_done15 {xs : Nat → Int32} (h0 : xs 0 &&& 15 = 15) : q_Runs q_KL (z_P 3 xs) 1300 0 (18, [(3, .int 0), (2, .ref 43), (1, .ref 0), (0, .ref 1900000)], [], z_m_c95) (.inl (some (.int 1)), z_m_c95) := q_Runs.adv (n := 11) (F' := (32, [(3, .int 0), (2, .ref 43), (1, .ref 0), (0, .ref 1900000)], [.int (xs 0 &&& 15)], z_m_c95)) rfl (q_Runs.cast (F' := (32, [(3, .int 0), (2, .ref 43), (1, .ref 0), (0, .ref 1900000)], [.int 15], z_m_c95)) (by rw [h0]) (q_Runs.adv (n := 10) (F' := (375, [(3, .int 3), (2, .ref 43), (1, .ref 0), (0, .ref 1900000)], [.int 1], z_m_c95)) rfl (q_Runs.fin rfl)))
set_option maxRecDepth 100000 in
theorem z_op1 {xs : Nat → Int32} (h0 : xs 0 &&& 15 = 1) (r : Int32) (h1 : q_Runs q_KL (z_P 3 xs) 1299 40 (0, [(0, .ref 0), (1, .int (xs 1))], [], z_m_c95) (.inl (some (.int r)), z_m_c95)) (h2 : q_Runs q_KL (z_P 3 xs) 1299 209 (0, [(0, .ref 43), (1, .int (xs 1))], [], z_m_c95) (.inl (some (.int r)), z_m_c95)) : q_Runs q_KL (z_P 3 xs) 1300 0 (18, [(3, .int 0), (2, .ref 43), (1, .ref 0), (0, .ref 1900000)], [], z_m_c95) (.inl (some (.int 1)), z_m_c95) := q_Runs.adv (n := 11) (F' := (32, [(3, .int 0), (2, .ref 43), (1, .ref 0), (0, .ref 1900000)], [.int (xs 0 &&& 15)], z_m_c95)) rfl (q_Runs.cast (F' := (32, [(3, .int 0), (2, .ref 43), (1, .ref 0), (0, .ref 1900000)], [.int 1], z_m_c95)) (by rw [h0]) (q_Runs.adv (n := 7) (F' := (147, [(3, .int 0), (2, .ref 43), (1, .ref 0), (0, .ref 1900000)], [.int (xs 1), .ref 0], z_m_c95)) rfl (q_Runs.call (d := 1299) rfl h1 (q_Runs.adv (n := 6) (F' := (156, [(3, .int 0), (2, .ref 43), (1, .ref 0), (0, .ref 1900000)], [.int (xs 1), .ref 43, .int r], z_m_c95)) rfl (q_Runs.call (d := 1299) rfl h2 (q_Runs.if2 true rfl z_cmpR rfl (q_Runs.adv (n := 9) (F' := (375, [(3, .int 3), (2, .ref 43), (1, .ref 0), (0, .ref 1900000)], [.int 1], z_m_c95)) rfl (q_Runs.fin rfl))))))))
set_option maxRecDepth 100000 in
theorem z_op3 {xs : Nat → Int32} (h0 : xs 0 &&& 15 = 3) (r : Int32) (h1 : q_Runs q_KL (z_P 3 xs) 1299 191 (0, [(0, .ref 0), (1, .int (xs 1))], [], z_m_c95) (.inl (some (.int r)), z_m_c95)) (h2 : q_Runs q_KL (z_P 3 xs) 1299 305 (0, [(0, .ref 43), (1, .int (xs 1))], [], z_m_c95) (.inl (some (.int r)), z_m_c95)) : q_Runs q_KL (z_P 3 xs) 1300 0 (18, [(3, .int 0), (2, .ref 43), (1, .ref 0), (0, .ref 1900000)], [], z_m_c95) (.inl (some (.int 1)), z_m_c95) := q_Runs.adv (n := 11) (F' := (32, [(3, .int 0), (2, .ref 43), (1, .ref 0), (0, .ref 1900000)], [.int (xs 0 &&& 15)], z_m_c95)) rfl (q_Runs.cast (F' := (32, [(3, .int 0), (2, .ref 43), (1, .ref 0), (0, .ref 1900000)], [.int 3], z_m_c95)) (by rw [h0]) (q_Runs.adv (n := 7) (F' := (183, [(3, .int 0), (2, .ref 43), (1, .ref 0), (0, .ref 1900000)], [.int (xs 1), .ref 0], z_m_c95)) rfl (q_Runs.call (d := 1299) rfl h1 (q_Runs.adv (n := 6) (F' := (192, [(3, .int 0), (2, .ref 43), (1, .ref 0), (0, .ref 1900000)], [.int (xs 1), .ref 43, .int r], z_m_c95)) rfl (q_Runs.call (d := 1299) rfl h2 (q_Runs.if2 true rfl z_cmpR rfl (q_Runs.adv (n := 9) (F' := (375, [(3, .int 3), (2, .ref 43), (1, .ref 0), (0, .ref 1900000)], [.int 1], z_m_c95)) rfl (q_Runs.fin rfl))))))))
set_option maxRecDepth 100000 in
theorem z_op4 {xs : Nat → Int32} (h0 : xs 0 &&& 15 = 4) (r : Int32) (h1 : q_Runs q_KL (z_P 3 xs) 1299 192 (0, [(0, .ref 0), (1, .int (xs 1))], [], z_m_c95) (.inl (some (.int r)), z_m_c95)) (h2 : q_Runs q_KL (z_P 3 xs) 1299 306 (0, [(0, .ref 43), (1, .int (xs 1))], [], z_m_c95) (.inl (some (.int r)), z_m_c95)) : q_Runs q_KL (z_P 3 xs) 1300 0 (18, [(3, .int 0), (2, .ref 43), (1, .ref 0), (0, .ref 1900000)], [], z_m_c95) (.inl (some (.int 1)), z_m_c95) := q_Runs.adv (n := 11) (F' := (32, [(3, .int 0), (2, .ref 43), (1, .ref 0), (0, .ref 1900000)], [.int (xs 0 &&& 15)], z_m_c95)) rfl (q_Runs.cast (F' := (32, [(3, .int 0), (2, .ref 43), (1, .ref 0), (0, .ref 1900000)], [.int 4], z_m_c95)) (by rw [h0]) (q_Runs.adv (n := 7) (F' := (206, [(3, .int 0), (2, .ref 43), (1, .ref 0), (0, .ref 1900000)], [.int (xs 1), .ref 0], z_m_c95)) rfl (q_Runs.call (d := 1299) rfl h1 (q_Runs.adv (n := 6) (F' := (215, [(3, .int 0), (2, .ref 43), (1, .ref 0), (0, .ref 1900000)], [.int (xs 1), .ref 43, .int r], z_m_c95)) rfl (q_Runs.call (d := 1299) rfl h2 (q_Runs.if2 true rfl z_cmpR rfl (q_Runs.adv (n := 9) (F' := (375, [(3, .int 3), (2, .ref 43), (1, .ref 0), (0, .ref 1900000)], [.int 1], z_m_c95)) rfl (q_Runs.fin rfl))))))))
set_option maxRecDepth 100000 in
theorem z_op5 {xs : Nat → Int32} (h0 : xs 0 &&& 15 = 5) (r : Int32) (h1 : q_Runs q_KL (z_P 3 xs) 1299 196 (0, [(0, .ref 0), (1, .int (xs 1)), (2, .int (xs 2))], [], z_m_c95) (.inl (some (.int r)), z_m_c95)) (h2 : q_Runs q_KL (z_P 3 xs) 1299 307 (0, [(0, .ref 43), (1, .int (xs 1)), (2, .int (xs 2))], [], z_m_c95) (.inl (some (.int r)), z_m_c95)) : q_Runs q_KL (z_P 3 xs) 1300 0 (18, [(3, .int 0), (2, .ref 43), (1, .ref 0), (0, .ref 1900000)], [], z_m_c95) (.inl (some (.int 1)), z_m_c95) := q_Runs.adv (n := 11) (F' := (32, [(3, .int 0), (2, .ref 43), (1, .ref 0), (0, .ref 1900000)], [.int (xs 0 &&& 15)], z_m_c95)) rfl (q_Runs.cast (F' := (32, [(3, .int 0), (2, .ref 43), (1, .ref 0), (0, .ref 1900000)], [.int 5], z_m_c95)) (by rw [h0]) (q_Runs.adv (n := 12) (F' := (234, [(3, .int 0), (2, .ref 43), (1, .ref 0), (0, .ref 1900000)], [.int (xs 2), .int (xs 1), .ref 0], z_m_c95)) rfl (q_Runs.call (d := 1299) rfl h1 (q_Runs.adv (n := 11) (F' := (248, [(3, .int 0), (2, .ref 43), (1, .ref 0), (0, .ref 1900000)], [.int (xs 2), .int (xs 1), .ref 43, .int r], z_m_c95)) rfl (q_Runs.call (d := 1299) rfl h2 (q_Runs.if2 true rfl z_cmpR rfl (q_Runs.adv (n := 9) (F' := (375, [(3, .int 3), (2, .ref 43), (1, .ref 0), (0, .ref 1900000)], [.int 1], z_m_c95)) rfl (q_Runs.fin rfl))))))))
set_option maxRecDepth 100000 in
theorem z_op6 {xs : Nat → Int32} (h0 : xs 0 &&& 15 = 6) (r : Int32) (h1 : q_Runs q_KL (z_P 3 xs) 1299 198 (0, [(0, .ref 0), (1, .int (xs 1)), (2, .int (xs 2))], [], z_m_c95) (.inl (some (.int r)), z_m_c95)) (h2 : q_Runs q_KL (z_P 3 xs) 1299 308 (0, [(0, .ref 43), (1, .int (xs 1)), (2, .int (xs 2))], [], z_m_c95) (.inl (some (.int r)), z_m_c95)) : q_Runs q_KL (z_P 3 xs) 1300 0 (18, [(3, .int 0), (2, .ref 43), (1, .ref 0), (0, .ref 1900000)], [], z_m_c95) (.inl (some (.int 1)), z_m_c95) := q_Runs.adv (n := 11) (F' := (32, [(3, .int 0), (2, .ref 43), (1, .ref 0), (0, .ref 1900000)], [.int (xs 0 &&& 15)], z_m_c95)) rfl (q_Runs.cast (F' := (32, [(3, .int 0), (2, .ref 43), (1, .ref 0), (0, .ref 1900000)], [.int 6], z_m_c95)) (by rw [h0]) (q_Runs.adv (n := 12) (F' := (267, [(3, .int 0), (2, .ref 43), (1, .ref 0), (0, .ref 1900000)], [.int (xs 2), .int (xs 1), .ref 0], z_m_c95)) rfl (q_Runs.call (d := 1299) rfl h1 (q_Runs.adv (n := 11) (F' := (281, [(3, .int 0), (2, .ref 43), (1, .ref 0), (0, .ref 1900000)], [.int (xs 2), .int (xs 1), .ref 43, .int r], z_m_c95)) rfl (q_Runs.call (d := 1299) rfl h2 (q_Runs.if2 true rfl z_cmpR rfl (q_Runs.adv (n := 9) (F' := (375, [(3, .int 3), (2, .ref 43), (1, .ref 0), (0, .ref 1900000)], [.int 1], z_m_c95)) rfl (q_Runs.fin rfl))))))))
set_option maxRecDepth 100000 in
theorem z_op7 {xs : Nat → Int32} (h0 : xs 0 &&& 15 = 7) (r : Int32) (h1 : q_Runs q_KL (z_P 3 xs) 1299 200 (0, [(0, .ref 0), (1, .int (xs 1)), (2, .int (xs 2))], [], z_m_c95) (.inl (some (.int r)), z_m_c95)) (h2 : q_Runs q_KL (z_P 3 xs) 1299 288 (0, [(0, .ref 43), (1, .int (xs 1)), (2, .int (xs 2))], [], z_m_c95) (.inl (some (.int r)), z_m_c95)) : q_Runs q_KL (z_P 3 xs) 1300 0 (18, [(3, .int 0), (2, .ref 43), (1, .ref 0), (0, .ref 1900000)], [], z_m_c95) (.inl (some (.int 1)), z_m_c95) := q_Runs.adv (n := 11) (F' := (32, [(3, .int 0), (2, .ref 43), (1, .ref 0), (0, .ref 1900000)], [.int (xs 0 &&& 15)], z_m_c95)) rfl (q_Runs.cast (F' := (32, [(3, .int 0), (2, .ref 43), (1, .ref 0), (0, .ref 1900000)], [.int 7], z_m_c95)) (by rw [h0]) (q_Runs.adv (n := 12) (F' := (300, [(3, .int 0), (2, .ref 43), (1, .ref 0), (0, .ref 1900000)], [.int (xs 2), .int (xs 1), .ref 0], z_m_c95)) rfl (q_Runs.call (d := 1299) rfl h1 (q_Runs.adv (n := 11) (F' := (314, [(3, .int 0), (2, .ref 43), (1, .ref 0), (0, .ref 1900000)], [.int (xs 2), .int (xs 1), .ref 43, .int r], z_m_c95)) rfl (q_Runs.call (d := 1299) rfl h2 (q_Runs.if2 true rfl z_cmpR rfl (q_Runs.adv (n := 9) (F' := (375, [(3, .int 3), (2, .ref 43), (1, .ref 0), (0, .ref 1900000)], [.int 1], z_m_c95)) rfl (q_Runs.fin rfl))))))))
set_option maxRecDepth 100000 in
theorem z_op8 {xs : Nat → Int32} (h0 : xs 0 &&& 15 = 8) (r : Int32) (h1 : q_Runs q_KL (z_P 3 xs) 1299 201 (0, [(0, .ref 0), (1, .int (xs 1)), (2, .int (xs 2))], [], z_m_c95) (.inl (some (.int r)), z_m_c95)) (h2 : q_Runs q_KL (z_P 3 xs) 1299 309 (0, [(0, .ref 43), (1, .int (xs 1)), (2, .int (xs 2))], [], z_m_c95) (.inl (some (.int r)), z_m_c95)) : q_Runs q_KL (z_P 3 xs) 1300 0 (18, [(3, .int 0), (2, .ref 43), (1, .ref 0), (0, .ref 1900000)], [], z_m_c95) (.inl (some (.int 1)), z_m_c95) := q_Runs.adv (n := 11) (F' := (32, [(3, .int 0), (2, .ref 43), (1, .ref 0), (0, .ref 1900000)], [.int (xs 0 &&& 15)], z_m_c95)) rfl (q_Runs.cast (F' := (32, [(3, .int 0), (2, .ref 43), (1, .ref 0), (0, .ref 1900000)], [.int 8], z_m_c95)) (by rw [h0]) (q_Runs.adv (n := 12) (F' := (333, [(3, .int 0), (2, .ref 43), (1, .ref 0), (0, .ref 1900000)], [.int (xs 2), .int (xs 1), .ref 0], z_m_c95)) rfl (q_Runs.call (d := 1299) rfl h1 (q_Runs.adv (n := 11) (F' := (347, [(3, .int 0), (2, .ref 43), (1, .ref 0), (0, .ref 1900000)], [.int (xs 2), .int (xs 1), .ref 43, .int r], z_m_c95)) rfl (q_Runs.call (d := 1299) rfl h2 (q_Runs.if2 true rfl z_cmpR rfl (q_Runs.adv (n := 9) (F' := (375, [(3, .int 3), (2, .ref 43), (1, .ref 0), (0, .ref 1900000)], [.int 1], z_m_c95)) rfl (q_Runs.fin rfl))))))))
set_option maxRecDepth 100000 in
theorem z_op9 {xs : Nat → Int32} (h0 : xs 0 &&& 15 = 9) (r : Int32) (h1 : q_Runs q_KL (z_P 3 xs) 1299 203 (0, [(0, .ref 0)], [], z_m_c95) (.inl (some (.int r)), z_m_c95)) (h2 : q_Runs q_KL (z_P 3 xs) 1299 310 (0, [(0, .ref 43)], [], z_m_c95) (.inl (some (.int r)), z_m_c95)) : q_Runs q_KL (z_P 3 xs) 1300 0 (18, [(3, .int 0), (2, .ref 43), (1, .ref 0), (0, .ref 1900000)], [], z_m_c95) (.inl (some (.int 1)), z_m_c95) := q_Runs.adv (n := 11) (F' := (32, [(3, .int 0), (2, .ref 43), (1, .ref 0), (0, .ref 1900000)], [.int (xs 0 &&& 15)], z_m_c95)) rfl (q_Runs.cast (F' := (32, [(3, .int 0), (2, .ref 43), (1, .ref 0), (0, .ref 1900000)], [.int 9], z_m_c95)) (by rw [h0]) (q_Runs.adv (n := 2) (F' := (356, [(3, .int 0), (2, .ref 43), (1, .ref 0), (0, .ref 1900000)], [.ref 0], z_m_c95)) rfl (q_Runs.call (d := 1299) rfl h1 (q_Runs.adv (n := 1) (F' := (360, [(3, .int 0), (2, .ref 43), (1, .ref 0), (0, .ref 1900000)], [.ref 43, .int r], z_m_c95)) rfl (q_Runs.call (d := 1299) rfl h2 (q_Runs.if2 true rfl z_cmpR rfl (q_Runs.adv (n := 9) (F' := (375, [(3, .int 3), (2, .ref 43), (1, .ref 0), (0, .ref 1900000)], [.int 1], z_m_c95)) rfl (q_Runs.fin rfl))))))))
theorem z_spl1 (a : Int32) : a.toInt < 0 ∨ a = 0 ∨ 1 ≤ a.toInt := by
  rcases Int.lt_or_le a.toInt 0 with h | h
  · exact Or.inl h
  rcases Int.lt_or_le a.toInt 1 with g | g
  · have q : a.toInt = 0 := by omega
    skip
    exact Or.inr (Or.inl (Int32.toInt_inj.mp (q.trans rfl)))
  · exact Or.inr (Or.inr (g))
theorem z_spl3 (a : Int32) : a.toInt < 0 ∨ a = 0 ∨ a = 1 ∨ a = 2 ∨ 3 ≤ a.toInt := by
  rcases Int.lt_or_le a.toInt 0 with h | h
  · exact Or.inl h
  rcases Int.lt_or_le a.toInt 3 with g | g
  · have q : a.toInt = 0 ∨ a.toInt = 1 ∨ a.toInt = 2 := by omega
    rcases q with q | q | q
    · exact Or.inr (Or.inl (Int32.toInt_inj.mp (q.trans rfl)))
    · exact Or.inr (Or.inr (Or.inl (Int32.toInt_inj.mp (q.trans rfl))))
    · exact Or.inr (Or.inr (Or.inr (Or.inl (Int32.toInt_inj.mp (q.trans rfl)))))
  · exact Or.inr (Or.inr (Or.inr (Or.inr (g))))
theorem z_spl4 (a : Int32) : a.toInt < 0 ∨ a = 0 ∨ a = 1 ∨ a = 2 ∨ a = 3 ∨ 4 ≤ a.toInt := by
  rcases Int.lt_or_le a.toInt 0 with h | h
  · exact Or.inl h
  rcases Int.lt_or_le a.toInt 4 with g | g
  · have q : a.toInt = 0 ∨ a.toInt = 1 ∨ a.toInt = 2 ∨ a.toInt = 3 := by omega
    rcases q with q | q | q | q
    · exact Or.inr (Or.inl (Int32.toInt_inj.mp (q.trans rfl)))
    · exact Or.inr (Or.inr (Or.inl (Int32.toInt_inj.mp (q.trans rfl))))
    · exact Or.inr (Or.inr (Or.inr (Or.inl (Int32.toInt_inj.mp (q.trans rfl)))))
    · exact Or.inr (Or.inr (Or.inr (Or.inr (Or.inl (Int32.toInt_inj.mp (q.trans rfl))))))
  · exact Or.inr (Or.inr (Or.inr (Or.inr (Or.inr (g)))))
theorem z_spl5 (a : Int32) : a.toInt < 0 ∨ a = 0 ∨ a = 1 ∨ a = 2 ∨ a = 3 ∨ a = 4 ∨ 5 ≤ a.toInt := by
  rcases Int.lt_or_le a.toInt 0 with h | h
  · exact Or.inl h
  rcases Int.lt_or_le a.toInt 5 with g | g
  · have q : a.toInt = 0 ∨ a.toInt = 1 ∨ a.toInt = 2 ∨ a.toInt = 3 ∨ a.toInt = 4 := by omega
    rcases q with q | q | q | q | q
    · exact Or.inr (Or.inl (Int32.toInt_inj.mp (q.trans rfl)))
    · exact Or.inr (Or.inr (Or.inl (Int32.toInt_inj.mp (q.trans rfl))))
    · exact Or.inr (Or.inr (Or.inr (Or.inl (Int32.toInt_inj.mp (q.trans rfl)))))
    · exact Or.inr (Or.inr (Or.inr (Or.inr (Or.inl (Int32.toInt_inj.mp (q.trans rfl))))))
    · exact Or.inr (Or.inr (Or.inr (Or.inr (Or.inr (Or.inl (Int32.toInt_inj.mp (q.trans rfl)))))))
  · exact Or.inr (Or.inr (Or.inr (Or.inr (Or.inr (Or.inr (g))))))
theorem z_spl6 (a : Int32) : a.toInt < 0 ∨ a = 0 ∨ a = 1 ∨ a = 2 ∨ a = 3 ∨ a = 4 ∨ a = 5 ∨ 6 ≤ a.toInt := by
  rcases Int.lt_or_le a.toInt 0 with h | h
  · exact Or.inl h
  rcases Int.lt_or_le a.toInt 6 with g | g
  · have q : a.toInt = 0 ∨ a.toInt = 1 ∨ a.toInt = 2 ∨ a.toInt = 3 ∨ a.toInt = 4 ∨ a.toInt = 5 := by omega
    rcases q with q | q | q | q | q | q
    · exact Or.inr (Or.inl (Int32.toInt_inj.mp (q.trans rfl)))
    · exact Or.inr (Or.inr (Or.inl (Int32.toInt_inj.mp (q.trans rfl))))
    · exact Or.inr (Or.inr (Or.inr (Or.inl (Int32.toInt_inj.mp (q.trans rfl)))))
    · exact Or.inr (Or.inr (Or.inr (Or.inr (Or.inl (Int32.toInt_inj.mp (q.trans rfl))))))
    · exact Or.inr (Or.inr (Or.inr (Or.inr (Or.inr (Or.inl (Int32.toInt_inj.mp (q.trans rfl)))))))
    · exact Or.inr (Or.inr (Or.inr (Or.inr (Or.inr (Or.inr (Or.inl (Int32.toInt_inj.mp (q.trans rfl))))))))
  · exact Or.inr (Or.inr (Or.inr (Or.inr (Or.inr (Or.inr (Or.inr (g)))))))
theorem z_spl7 (a : Int32) : a.toInt < 0 ∨ a = 0 ∨ a = 1 ∨ a = 2 ∨ a = 3 ∨ a = 4 ∨ a = 5 ∨ a = 6 ∨ 7 ≤ a.toInt := by
  rcases Int.lt_or_le a.toInt 0 with h | h
  · exact Or.inl h
  rcases Int.lt_or_le a.toInt 7 with g | g
  · have q : a.toInt = 0 ∨ a.toInt = 1 ∨ a.toInt = 2 ∨ a.toInt = 3 ∨ a.toInt = 4 ∨ a.toInt = 5 ∨ a.toInt = 6 := by omega
    rcases q with q | q | q | q | q | q | q
    · exact Or.inr (Or.inl (Int32.toInt_inj.mp (q.trans rfl)))
    · exact Or.inr (Or.inr (Or.inl (Int32.toInt_inj.mp (q.trans rfl))))
    · exact Or.inr (Or.inr (Or.inr (Or.inl (Int32.toInt_inj.mp (q.trans rfl)))))
    · exact Or.inr (Or.inr (Or.inr (Or.inr (Or.inl (Int32.toInt_inj.mp (q.trans rfl))))))
    · exact Or.inr (Or.inr (Or.inr (Or.inr (Or.inr (Or.inl (Int32.toInt_inj.mp (q.trans rfl)))))))
    · exact Or.inr (Or.inr (Or.inr (Or.inr (Or.inr (Or.inr (Or.inl (Int32.toInt_inj.mp (q.trans rfl))))))))
    · exact Or.inr (Or.inr (Or.inr (Or.inr (Or.inr (Or.inr (Or.inr (Or.inl (Int32.toInt_inj.mp (q.trans rfl)))))))))
  · exact Or.inr (Or.inr (Or.inr (Or.inr (Or.inr (Or.inr (Or.inr (Or.inr (g))))))))
theorem z_spl8 (a : Int32) : a.toInt < 0 ∨ a = 0 ∨ a = 1 ∨ a = 2 ∨ a = 3 ∨ a = 4 ∨ a = 5 ∨ a = 6 ∨ a = 7 ∨ 8 ≤ a.toInt := by
  rcases Int.lt_or_le a.toInt 0 with h | h
  · exact Or.inl h
  rcases Int.lt_or_le a.toInt 8 with g | g
  · have q : a.toInt = 0 ∨ a.toInt = 1 ∨ a.toInt = 2 ∨ a.toInt = 3 ∨ a.toInt = 4 ∨ a.toInt = 5 ∨ a.toInt = 6 ∨ a.toInt = 7 := by omega
    rcases q with q | q | q | q | q | q | q | q
    · exact Or.inr (Or.inl (Int32.toInt_inj.mp (q.trans rfl)))
    · exact Or.inr (Or.inr (Or.inl (Int32.toInt_inj.mp (q.trans rfl))))
    · exact Or.inr (Or.inr (Or.inr (Or.inl (Int32.toInt_inj.mp (q.trans rfl)))))
    · exact Or.inr (Or.inr (Or.inr (Or.inr (Or.inl (Int32.toInt_inj.mp (q.trans rfl))))))
    · exact Or.inr (Or.inr (Or.inr (Or.inr (Or.inr (Or.inl (Int32.toInt_inj.mp (q.trans rfl)))))))
    · exact Or.inr (Or.inr (Or.inr (Or.inr (Or.inr (Or.inr (Or.inl (Int32.toInt_inj.mp (q.trans rfl))))))))
    · exact Or.inr (Or.inr (Or.inr (Or.inr (Or.inr (Or.inr (Or.inr (Or.inl (Int32.toInt_inj.mp (q.trans rfl)))))))))
    · exact Or.inr (Or.inr (Or.inr (Or.inr (Or.inr (Or.inr (Or.inr (Or.inr (Or.inl (Int32.toInt_inj.mp (q.trans rfl))))))))))
  · exact Or.inr (Or.inr (Or.inr (Or.inr (Or.inr (Or.inr (Or.inr (Or.inr (Or.inr (g)))))))))
theorem z_spl10 (a : Int32) : a.toInt < 0 ∨ a = 0 ∨ a = 1 ∨ a = 2 ∨ a = 3 ∨ a = 4 ∨ a = 5 ∨ a = 6 ∨ a = 7 ∨ a = 8 ∨ a = 9 ∨ 10 ≤ a.toInt := by
  rcases Int.lt_or_le a.toInt 0 with h | h
  · exact Or.inl h
  rcases Int.lt_or_le a.toInt 10 with g | g
  · have q : a.toInt = 0 ∨ a.toInt = 1 ∨ a.toInt = 2 ∨ a.toInt = 3 ∨ a.toInt = 4 ∨ a.toInt = 5 ∨ a.toInt = 6 ∨ a.toInt = 7 ∨ a.toInt = 8 ∨ a.toInt = 9 := by omega
    rcases q with q | q | q | q | q | q | q | q | q | q
    · exact Or.inr (Or.inl (Int32.toInt_inj.mp (q.trans rfl)))
    · exact Or.inr (Or.inr (Or.inl (Int32.toInt_inj.mp (q.trans rfl))))
    · exact Or.inr (Or.inr (Or.inr (Or.inl (Int32.toInt_inj.mp (q.trans rfl)))))
    · exact Or.inr (Or.inr (Or.inr (Or.inr (Or.inl (Int32.toInt_inj.mp (q.trans rfl))))))
    · exact Or.inr (Or.inr (Or.inr (Or.inr (Or.inr (Or.inl (Int32.toInt_inj.mp (q.trans rfl)))))))
    · exact Or.inr (Or.inr (Or.inr (Or.inr (Or.inr (Or.inr (Or.inl (Int32.toInt_inj.mp (q.trans rfl))))))))
    · exact Or.inr (Or.inr (Or.inr (Or.inr (Or.inr (Or.inr (Or.inr (Or.inl (Int32.toInt_inj.mp (q.trans rfl)))))))))
    · exact Or.inr (Or.inr (Or.inr (Or.inr (Or.inr (Or.inr (Or.inr (Or.inr (Or.inl (Int32.toInt_inj.mp (q.trans rfl))))))))))
    · exact Or.inr (Or.inr (Or.inr (Or.inr (Or.inr (Or.inr (Or.inr (Or.inr (Or.inr (Or.inl (Int32.toInt_inj.mp (q.trans rfl)))))))))))
    · exact Or.inr (Or.inr (Or.inr (Or.inr (Or.inr (Or.inr (Or.inr (Or.inr (Or.inr (Or.inr (Or.inl (Int32.toInt_inj.mp (q.trans rfl))))))))))))
  · exact Or.inr (Or.inr (Or.inr (Or.inr (Or.inr (Or.inr (Or.inr (Or.inr (Or.inr (Or.inr (Or.inr (g)))))))))))
set_option maxRecDepth 100000 in
theorem z_done1 {xs : Nat → Int32} (h0 : xs 0 &&& 15 = 1) : q_Runs q_KL (z_P 3 xs) 1300 0 (18, [(3, .int 0), (2, .ref 43), (1, .ref 0), (0, .ref 1900000)], [], z_m_c95) (.inl (some (.int 1)), z_m_c95) := by
  rcases z_spl1 (xs 1) with h | h | h
  · exact z_op1 h0 (-1) (by exact z_q26 (xs 1) h) (by exact z_q27 (xs 1) h)
  · exact z_op1 h0 0 (by rw [h]; exact z_toC z_q31) (by rw [h]; exact z_toC z_q32)
  · exact z_op1 h0 (-1) (by exact z_q29 (xs 1) h) (by exact z_q30 (xs 1) h)
set_option maxRecDepth 100000 in
theorem z_done3 {xs : Nat → Int32} (h0 : xs 0 &&& 15 = 3) : q_Runs q_KL (z_P 3 xs) 1300 0 (18, [(3, .int 0), (2, .ref 43), (1, .ref 0), (0, .ref 1900000)], [], z_m_c95) (.inl (some (.int 1)), z_m_c95) := by
  rcases z_spl4 (xs 1) with h | h | h | h | h | h
  · exact z_op3 h0 (-1) (by exact z_q1 (xs 1) h) (by exact z_q2 (xs 1) h)
  · exact z_op3 h0 0 (by rw [h]; exact z_toC z_q5) (by rw [h]; exact z_toC z_q6)
  · exact z_op3 h0 (-1) (by rw [h]; exact z_toC z_q7) (by rw [h]; exact z_toC z_q8)
  · exact z_op3 h0 (-1) (by rw [h]; exact z_toC z_q9) (by rw [h]; exact z_toC z_q10)
  · exact z_op3 h0 (-1) (by rw [h]; exact z_toC z_q11) (by rw [h]; exact z_toC z_q12)
  · exact z_op3 h0 (-1) (by exact z_q3 (xs 1) h) (by exact z_q4 (xs 1) h)
set_option maxRecDepth 100000 in
theorem z_done4 {xs : Nat → Int32} (h0 : xs 0 &&& 15 = 4) : q_Runs q_KL (z_P 3 xs) 1300 0 (18, [(3, .int 0), (2, .ref 43), (1, .ref 0), (0, .ref 1900000)], [], z_m_c95) (.inl (some (.int 1)), z_m_c95) := by
  rcases z_spl4 (xs 1) with h | h | h | h | h | h
  · exact z_op4 h0 (-1) (by exact z_q13 (xs 1) h) (by exact z_q14 (xs 1) h)
  · exact z_op4 h0 0 (by rw [h]; exact z_toC z_q17) (by rw [h]; exact z_toC z_q18)
  · exact z_op4 h0 7 (by rw [h]; exact z_toC z_q19) (by rw [h]; exact z_toC z_q20)
  · exact z_op4 h0 10 (by rw [h]; exact z_toC z_q21) (by rw [h]; exact z_toC z_q22)
  · exact z_op4 h0 0 (by rw [h]; exact z_toC z_q23) (by rw [h]; exact z_toC z_q24)
  · exact z_op4 h0 (-1) (by exact z_q15 (xs 1) h) (by exact z_q16 (xs 1) h)
set_option maxRecDepth 100000 in
theorem z_done5 {xs : Nat → Int32} (h0 : xs 0 &&& 15 = 5) : q_Runs q_KL (z_P 3 xs) 1300 0 (18, [(3, .int 0), (2, .ref 43), (1, .ref 0), (0, .ref 1900000)], [], z_m_c95) (.inl (some (.int 1)), z_m_c95) := by
  rcases Int.lt_or_le (xs 1).toInt 0 with h | h
  · exact z_op5 h0 (-1) (by exact z_q36 (xs 1) (xs 2) h) (by exact z_q37 (xs 1) (xs 2) h)
  · exact z_op5 h0 (-1) (by exact z_q39 (xs 1) (xs 2) h) (by exact z_q40 (xs 1) (xs 2) h)
set_option maxRecDepth 100000 in
theorem z_done6 {xs : Nat → Int32} (h0 : xs 0 &&& 15 = 6) : q_Runs q_KL (z_P 3 xs) 1300 0 (18, [(3, .int 0), (2, .ref 43), (1, .ref 0), (0, .ref 1900000)], [], z_m_c95) (.inl (some (.int 1)), z_m_c95) := by
  rcases Int.lt_or_le (xs 1).toInt 0 with h | h
  · exact z_op6 h0 (-2147483648) (by exact z_q42 (xs 1) (xs 2) h) (by exact z_q43 (xs 1) (xs 2) h)
  · exact z_op6 h0 (-2147483648) (by exact z_q45 (xs 1) (xs 2) h) (by exact z_q46 (xs 1) (xs 2) h)
set_option maxRecDepth 100000 in
theorem z_done7 {xs : Nat → Int32} (h0 : xs 0 &&& 15 = 7) : q_Runs q_KL (z_P 3 xs) 1300 0 (18, [(3, .int 0), (2, .ref 43), (1, .ref 0), (0, .ref 1900000)], [], z_m_c95) (.inl (some (.int 1)), z_m_c95) := by
  rcases z_spl10 (xs 1) with h | h | h | h | h | h | h | h | h | h | h | h
  · rcases Int.lt_or_le (xs 2).toInt 0 with g | g
    · exact z_op7 h0 (-1) (by exact z_q49 (xs 1) (xs 2) h g) (by exact z_q50 (xs 1) (xs 2) h g)
    · exact z_op7 h0 (-1) (by exact z_q53 (xs 1) (xs 2) h g) (by exact z_q54 (xs 1) (xs 2) h g)
  · rcases z_spl4 (xs 2) with g | g | g | g | g | g
    · exact z_op7 h0 (-1) (by rw [h]; exact z_q65 (xs 2) g) (by rw [h]; exact z_q66 (xs 2) g)
    · exact z_op7 h0 116 (by rw [h, g]; exact z_toC z_q143) (by rw [h, g]; exact z_toC z_q144)
    · exact z_op7 h0 114 (by rw [h, g]; exact z_toC z_q145) (by rw [h, g]; exact z_toC z_q146)
    · exact z_op7 h0 117 (by rw [h, g]; exact z_toC z_q147) (by rw [h, g]; exact z_toC z_q148)
    · exact z_op7 h0 101 (by rw [h, g]; exact z_toC z_q149) (by rw [h, g]; exact z_toC z_q150)
    · exact z_op7 h0 (-1) (by rw [h]; exact z_q69 (xs 2) g) (by rw [h]; exact z_q70 (xs 2) g)
  · rcases z_spl5 (xs 2) with g | g | g | g | g | g | g
    · exact z_op7 h0 (-1) (by rw [h]; exact z_q73 (xs 2) g) (by rw [h]; exact z_q74 (xs 2) g)
    · exact z_op7 h0 102 (by rw [h, g]; exact z_toC z_q151) (by rw [h, g]; exact z_toC z_q152)
    · exact z_op7 h0 97 (by rw [h, g]; exact z_toC z_q153) (by rw [h, g]; exact z_toC z_q154)
    · exact z_op7 h0 108 (by rw [h, g]; exact z_toC z_q155) (by rw [h, g]; exact z_toC z_q156)
    · exact z_op7 h0 115 (by rw [h, g]; exact z_toC z_q157) (by rw [h, g]; exact z_toC z_q158)
    · exact z_op7 h0 101 (by rw [h, g]; exact z_toC z_q159) (by rw [h, g]; exact z_toC z_q160)
    · exact z_op7 h0 (-1) (by rw [h]; exact z_q77 (xs 2) g) (by rw [h]; exact z_q78 (xs 2) g)
  · rcases z_spl3 (xs 2) with g | g | g | g | g
    · exact z_op7 h0 (-1) (by rw [h]; exact z_q81 (xs 2) g) (by rw [h]; exact z_q82 (xs 2) g)
    · exact z_op7 h0 110 (by rw [h, g]; exact z_toC z_q161) (by rw [h, g]; exact z_toC z_q162)
    · exact z_op7 h0 105 (by rw [h, g]; exact z_toC z_q163) (by rw [h, g]; exact z_toC z_q164)
    · exact z_op7 h0 108 (by rw [h, g]; exact z_toC z_q165) (by rw [h, g]; exact z_toC z_q166)
    · exact z_op7 h0 (-1) (by rw [h]; exact z_q85 (xs 2) g) (by rw [h]; exact z_q86 (xs 2) g)
  · rcases z_spl1 (xs 2) with g | g | g
    · exact z_op7 h0 (-1) (by rw [h]; exact z_q89 (xs 2) g) (by rw [h]; exact z_q90 (xs 2) g)
    · exact z_op7 h0 124 (by rw [h, g]; exact z_toC z_q167) (by rw [h, g]; exact z_toC z_q168)
    · exact z_op7 h0 (-1) (by rw [h]; exact z_q93 (xs 2) g) (by rw [h]; exact z_q94 (xs 2) g)
  · rcases z_spl7 (xs 2) with g | g | g | g | g | g | g | g | g
    · exact z_op7 h0 (-1) (by rw [h]; exact z_q97 (xs 2) g) (by rw [h]; exact z_q98 (xs 2) g)
    · exact z_op7 h0 110 (by rw [h, g]; exact z_toC z_q169) (by rw [h, g]; exact z_toC z_q170)
    · exact z_op7 h0 111 (by rw [h, g]; exact z_toC z_q171) (by rw [h, g]; exact z_toC z_q172)
    · exact z_op7 h0 109 (by rw [h, g]; exact z_toC z_q173) (by rw [h, g]; exact z_toC z_q174)
    · exact z_op7 h0 97 (by rw [h, g]; exact z_toC z_q175) (by rw [h, g]; exact z_toC z_q176)
    · exact z_op7 h0 116 (by rw [h, g]; exact z_toC z_q177) (by rw [h, g]; exact z_toC z_q178)
    · exact z_op7 h0 99 (by rw [h, g]; exact z_toC z_q179) (by rw [h, g]; exact z_toC z_q180)
    · exact z_op7 h0 104 (by rw [h, g]; exact z_toC z_q181) (by rw [h, g]; exact z_toC z_q182)
    · exact z_op7 h0 (-1) (by rw [h]; exact z_q101 (xs 2) g) (by rw [h]; exact z_q102 (xs 2) g)
  · rcases z_spl7 (xs 2) with g | g | g | g | g | g | g | g | g
    · exact z_op7 h0 (-1) (by rw [h]; exact z_q105 (xs 2) g) (by rw [h]; exact z_q106 (xs 2) g)
    · exact z_op7 h0 102 (by rw [h, g]; exact z_toC z_q183) (by rw [h, g]; exact z_toC z_q184)
    · exact z_op7 h0 97 (by rw [h, g]; exact z_toC z_q185) (by rw [h, g]; exact z_toC z_q186)
    · exact z_op7 h0 105 (by rw [h, g]; exact z_toC z_q187) (by rw [h, g]; exact z_toC z_q188)
    · exact z_op7 h0 108 (by rw [h, g]; exact z_toC z_q189) (by rw [h, g]; exact z_toC z_q190)
    · exact z_op7 h0 117 (by rw [h, g]; exact z_toC z_q191) (by rw [h, g]; exact z_toC z_q192)
    · exact z_op7 h0 114 (by rw [h, g]; exact z_toC z_q193) (by rw [h, g]; exact z_toC z_q194)
    · exact z_op7 h0 101 (by rw [h, g]; exact z_toC z_q195) (by rw [h, g]; exact z_toC z_q196)
    · exact z_op7 h0 (-1) (by rw [h]; exact z_q109 (xs 2) g) (by rw [h]; exact z_q110 (xs 2) g)
  · rcases z_spl4 (xs 2) with g | g | g | g | g | g
    · exact z_op7 h0 (-1) (by rw [h]; exact z_q113 (xs 2) g) (by rw [h]; exact z_q114 (xs 2) g)
    · exact z_op7 h0 122 (by rw [h, g]; exact z_toC z_q197) (by rw [h, g]; exact z_toC z_q198)
    · exact z_op7 h0 101 (by rw [h, g]; exact z_toC z_q199) (by rw [h, g]; exact z_toC z_q200)
    · exact z_op7 h0 114 (by rw [h, g]; exact z_toC z_q201) (by rw [h, g]; exact z_toC z_q202)
    · exact z_op7 h0 111 (by rw [h, g]; exact z_toC z_q203) (by rw [h, g]; exact z_toC z_q204)
    · exact z_op7 h0 (-1) (by rw [h]; exact z_q117 (xs 2) g) (by rw [h]; exact z_q118 (xs 2) g)
  · rcases z_spl4 (xs 2) with g | g | g | g | g | g
    · exact z_op7 h0 (-1) (by rw [h]; exact z_q121 (xs 2) g) (by rw [h]; exact z_q122 (xs 2) g)
    · exact z_op7 h0 107 (by rw [h, g]; exact z_toC z_q205) (by rw [h, g]; exact z_toC z_q206)
    · exact z_op7 h0 105 (by rw [h, g]; exact z_toC z_q207) (by rw [h, g]; exact z_toC z_q208)
    · exact z_op7 h0 110 (by rw [h, g]; exact z_toC z_q209) (by rw [h, g]; exact z_toC z_q210)
    · exact z_op7 h0 100 (by rw [h, g]; exact z_toC z_q211) (by rw [h, g]; exact z_toC z_q212)
    · exact z_op7 h0 (-1) (by rw [h]; exact z_q125 (xs 2) g) (by rw [h]; exact z_q126 (xs 2) g)
  · rcases z_spl5 (xs 2) with g | g | g | g | g | g | g
    · exact z_op7 h0 (-1) (by rw [h]; exact z_q129 (xs 2) g) (by rw [h]; exact z_q130 (xs 2) g)
    · exact z_op7 h0 97 (by rw [h, g]; exact z_toC z_q213) (by rw [h, g]; exact z_toC z_q214)
    · exact z_op7 h0 114 (by rw [h, g]; exact z_toC z_q215) (by rw [h, g]; exact z_toC z_q216)
    · exact z_op7 h0 105 (by rw [h, g]; exact z_toC z_q217) (by rw [h, g]; exact z_toC z_q218)
    · exact z_op7 h0 116 (by rw [h, g]; exact z_toC z_q219) (by rw [h, g]; exact z_toC z_q220)
    · exact z_op7 h0 121 (by rw [h, g]; exact z_toC z_q221) (by rw [h, g]; exact z_toC z_q222)
    · exact z_op7 h0 (-1) (by rw [h]; exact z_q133 (xs 2) g) (by rw [h]; exact z_q134 (xs 2) g)
  · rcases z_spl7 (xs 2) with g | g | g | g | g | g | g | g | g
    · exact z_op7 h0 (-1) (by rw [h]; exact z_q137 (xs 2) g) (by rw [h]; exact z_q138 (xs 2) g)
    · exact z_op7 h0 102 (by rw [h, g]; exact z_toC z_q223) (by rw [h, g]; exact z_toC z_q224)
    · exact z_op7 h0 101 (by rw [h, g]; exact z_toC z_q225) (by rw [h, g]; exact z_toC z_q226)
    · exact z_op7 h0 97 (by rw [h, g]; exact z_toC z_q227) (by rw [h, g]; exact z_toC z_q228)
    · exact z_op7 h0 116 (by rw [h, g]; exact z_toC z_q229) (by rw [h, g]; exact z_toC z_q230)
    · exact z_op7 h0 117 (by rw [h, g]; exact z_toC z_q231) (by rw [h, g]; exact z_toC z_q232)
    · exact z_op7 h0 114 (by rw [h, g]; exact z_toC z_q233) (by rw [h, g]; exact z_toC z_q234)
    · exact z_op7 h0 101 (by rw [h, g]; exact z_toC z_q235) (by rw [h, g]; exact z_toC z_q236)
    · exact z_op7 h0 (-1) (by rw [h]; exact z_q141 (xs 2) g) (by rw [h]; exact z_q142 (xs 2) g)
  · rcases Int.lt_or_le (xs 2).toInt 0 with g | g
    · exact z_op7 h0 (-1) (by exact z_q57 (xs 1) (xs 2) h g) (by exact z_q58 (xs 1) (xs 2) h g)
    · exact z_op7 h0 (-1) (by exact z_q61 (xs 1) (xs 2) h g) (by exact z_q62 (xs 1) (xs 2) h g)
set_option maxRecDepth 100000 in
theorem z_done8 {xs : Nat → Int32} (h0 : xs 0 &&& 15 = 8) : q_Runs q_KL (z_P 3 xs) 1300 0 (18, [(3, .int 0), (2, .ref 43), (1, .ref 0), (0, .ref 1900000)], [], z_m_c95) (.inl (some (.int 1)), z_m_c95) := by
  rcases z_spl7 (xs 1) with h | h | h | h | h | h | h | h | h
  · rcases Int.lt_or_le (xs 2).toInt 0 with g | g
    · exact z_op8 h0 (-1) (by exact z_q239 (xs 1) (xs 2) h g) (by exact z_q240 (xs 1) (xs 2) h g)
    · exact z_op8 h0 (-1) (by exact z_q243 (xs 1) (xs 2) h g) (by exact z_q244 (xs 1) (xs 2) h g)
  · rcases z_spl4 (xs 2) with g | g | g | g | g | g
    · exact z_op8 h0 (-1) (by rw [h]; exact z_q256 (xs 2) g) (by rw [h]; exact z_q258 (xs 2) g)
    · exact z_op8 h0 87 (by rw [h, g]; exact z_toC z_q337) (by rw [h, g]; exact z_toC z_q338)
    · exact z_op8 h0 97 (by rw [h, g]; exact z_toC z_q339) (by rw [h, g]; exact z_toC z_q340)
    · exact z_op8 h0 105 (by rw [h, g]; exact z_toC z_q341) (by rw [h, g]; exact z_toC z_q342)
    · exact z_op8 h0 116 (by rw [h, g]; exact z_toC z_q343) (by rw [h, g]; exact z_toC z_q344)
    · exact z_op8 h0 (-1) (by rw [h]; exact z_q262 (xs 2) g) (by rw [h]; exact z_q264 (xs 2) g)
  · rcases z_spl6 (xs 2) with g | g | g | g | g | g | g | g
    · exact z_op8 h0 (-1) (by rw [h]; exact z_q268 (xs 2) g) (by rw [h]; exact z_q270 (xs 2) g)
    · exact z_op8 h0 78 (by rw [h, g]; exact z_toC z_q345) (by rw [h, g]; exact z_toC z_q346)
    · exact z_op8 h0 101 (by rw [h, g]; exact z_toC z_q347) (by rw [h, g]; exact z_toC z_q348)
    · exact z_op8 h0 101 (by rw [h, g]; exact z_toC z_q349) (by rw [h, g]; exact z_toC z_q350)
    · exact z_op8 h0 100 (by rw [h, g]; exact z_toC z_q351) (by rw [h, g]; exact z_toC z_q352)
    · exact z_op8 h0 101 (by rw [h, g]; exact z_toC z_q353) (by rw [h, g]; exact z_toC z_q354)
    · exact z_op8 h0 100 (by rw [h, g]; exact z_toC z_q355) (by rw [h, g]; exact z_toC z_q356)
    · exact z_op8 h0 (-1) (by rw [h]; exact z_q274 (xs 2) g) (by rw [h]; exact z_q276 (xs 2) g)
  · rcases z_spl6 (xs 2) with g | g | g | g | g | g | g | g
    · exact z_op8 h0 (-1) (by rw [h]; exact z_q280 (xs 2) g) (by rw [h]; exact z_q282 (xs 2) g)
    · exact z_op8 h0 66 (by rw [h, g]; exact z_toC z_q357) (by rw [h, g]; exact z_toC z_q358)
    · exact z_op8 h0 121 (by rw [h, g]; exact z_toC z_q359) (by rw [h, g]; exact z_toC z_q360)
    · exact z_op8 h0 78 (by rw [h, g]; exact z_toC z_q361) (by rw [h, g]; exact z_toC z_q362)
    · exact z_op8 h0 101 (by rw [h, g]; exact z_toC z_q363) (by rw [h, g]; exact z_toC z_q364)
    · exact z_op8 h0 101 (by rw [h, g]; exact z_toC z_q365) (by rw [h, g]; exact z_toC z_q366)
    · exact z_op8 h0 100 (by rw [h, g]; exact z_toC z_q367) (by rw [h, g]; exact z_toC z_q368)
    · exact z_op8 h0 (-1) (by rw [h]; exact z_q286 (xs 2) g) (by rw [h]; exact z_q288 (xs 2) g)
  · rcases z_spl7 (xs 2) with g | g | g | g | g | g | g | g | g
    · exact z_op8 h0 (-1) (by rw [h]; exact z_q292 (xs 2) g) (by rw [h]; exact z_q294 (xs 2) g)
    · exact z_op8 h0 78 (by rw [h, g]; exact z_toC z_q369) (by rw [h, g]; exact z_toC z_q370)
    · exact z_op8 h0 101 (by rw [h, g]; exact z_toC z_q371) (by rw [h, g]; exact z_toC z_q372)
    · exact z_op8 h0 119 (by rw [h, g]; exact z_toC z_q373) (by rw [h, g]; exact z_toC z_q374)
    · exact z_op8 h0 67 (by rw [h, g]; exact z_toC z_q375) (by rw [h, g]; exact z_toC z_q376)
    · exact z_op8 h0 101 (by rw [h, g]; exact z_toC z_q377) (by rw [h, g]; exact z_toC z_q378)
    · exact z_op8 h0 108 (by rw [h, g]; exact z_toC z_q379) (by rw [h, g]; exact z_toC z_q380)
    · exact z_op8 h0 108 (by rw [h, g]; exact z_toC z_q381) (by rw [h, g]; exact z_toC z_q382)
    · exact z_op8 h0 (-1) (by rw [h]; exact z_q298 (xs 2) g) (by rw [h]; exact z_q300 (xs 2) g)
  · rcases z_spl8 (xs 2) with g | g | g | g | g | g | g | g | g | g
    · exact z_op8 h0 (-1) (by rw [h]; exact z_q304 (xs 2) g) (by rw [h]; exact z_q306 (xs 2) g)
    · exact z_op8 h0 69 (by rw [h, g]; exact z_toC z_q383) (by rw [h, g]; exact z_toC z_q384)
    · exact z_op8 h0 120 (by rw [h, g]; exact z_toC z_q385) (by rw [h, g]; exact z_toC z_q386)
    · exact z_op8 h0 99 (by rw [h, g]; exact z_toC z_q387) (by rw [h, g]; exact z_toC z_q388)
    · exact z_op8 h0 104 (by rw [h, g]; exact z_toC z_q389) (by rw [h, g]; exact z_toC z_q390)
    · exact z_op8 h0 97 (by rw [h, g]; exact z_toC z_q391) (by rw [h, g]; exact z_toC z_q392)
    · exact z_op8 h0 110 (by rw [h, g]; exact z_toC z_q393) (by rw [h, g]; exact z_toC z_q394)
    · exact z_op8 h0 103 (by rw [h, g]; exact z_toC z_q395) (by rw [h, g]; exact z_toC z_q396)
    · exact z_op8 h0 101 (by rw [h, g]; exact z_toC z_q397) (by rw [h, g]; exact z_toC z_q398)
    · exact z_op8 h0 (-1) (by rw [h]; exact z_q310 (xs 2) g) (by rw [h]; exact z_q312 (xs 2) g)
  · rcases z_spl7 (xs 2) with g | g | g | g | g | g | g | g | g
    · exact z_op8 h0 (-1) (by rw [h]; exact z_q316 (xs 2) g) (by rw [h]; exact z_q318 (xs 2) g)
    · exact z_op8 h0 78 (by rw [h, g]; exact z_toC z_q399) (by rw [h, g]; exact z_toC z_q400)
    · exact z_op8 h0 101 (by rw [h, g]; exact z_toC z_q401) (by rw [h, g]; exact z_toC z_q402)
    · exact z_op8 h0 119 (by rw [h, g]; exact z_toC z_q403) (by rw [h, g]; exact z_toC z_q404)
    · exact z_op8 h0 80 (by rw [h, g]; exact z_toC z_q405) (by rw [h, g]; exact z_toC z_q406)
    · exact z_op8 h0 111 (by rw [h, g]; exact z_toC z_q407) (by rw [h, g]; exact z_toC z_q408)
    · exact z_op8 h0 114 (by rw [h, g]; exact z_toC z_q409) (by rw [h, g]; exact z_toC z_q410)
    · exact z_op8 h0 116 (by rw [h, g]; exact z_toC z_q411) (by rw [h, g]; exact z_toC z_q412)
    · exact z_op8 h0 (-1) (by rw [h]; exact z_q322 (xs 2) g) (by rw [h]; exact z_q324 (xs 2) g)
  · rcases z_spl4 (xs 2) with g | g | g | g | g | g
    · exact z_op8 h0 (-1) (by rw [h]; exact z_q328 (xs 2) g) (by rw [h]; exact z_q330 (xs 2) g)
    · exact z_op8 h0 83 (by rw [h, g]; exact z_toC z_q413) (by rw [h, g]; exact z_toC z_q414)
    · exact z_op8 h0 101 (by rw [h, g]; exact z_toC z_q415) (by rw [h, g]; exact z_toC z_q416)
    · exact z_op8 h0 110 (by rw [h, g]; exact z_toC z_q417) (by rw [h, g]; exact z_toC z_q418)
    · exact z_op8 h0 100 (by rw [h, g]; exact z_toC z_q419) (by rw [h, g]; exact z_toC z_q420)
    · exact z_op8 h0 (-1) (by rw [h]; exact z_q334 (xs 2) g) (by rw [h]; exact z_q336 (xs 2) g)
  · rcases Int.lt_or_le (xs 2).toInt 0 with g | g
    · exact z_op8 h0 (-1) (by exact z_q247 (xs 1) (xs 2) h g) (by exact z_q248 (xs 1) (xs 2) h g)
    · exact z_op8 h0 (-1) (by exact z_q251 (xs 1) (xs 2) h g) (by exact z_q252 (xs 1) (xs 2) h g)
set_option maxRecDepth 100000 in
theorem z_done9 {xs : Nat → Int32} (h0 : xs 0 &&& 15 = 9) : q_Runs q_KL (z_P 3 xs) 1300 0 (18, [(3, .int 0), (2, .ref 43), (1, .ref 0), (0, .ref 1900000)], [], z_m_c95) (.inl (some (.int 1)), z_m_c95) := by
  exact z_op9 h0 0 (by exact z_toC z_q33) (by exact z_toC z_q34)
set_option maxRecDepth 100000 in
theorem z_done2 {xs : Nat → Int32} (h0 : xs 0 &&& 15 = 2) : q_Runs q_KL (z_P 3 xs) 1300 0 (18, [(3, .int 0), (2, .ref 43), (1, .ref 0), (0, .ref 1900000)], [], z_m_c95) (.inl (some (.int 1)), z_m_x54) := q_Runs.adv (n := 11) (F' := (32, [(3, .int 0), (2, .ref 43), (1, .ref 0), (0, .ref 1900000)], [.int (xs 0 &&& 15)], z_m_c95)) rfl (q_Runs.cast (F' := (32, [(3, .int 0), (2, .ref 43), (1, .ref 0), (0, .ref 1900000)], [.int 2], z_m_c95)) (by rw [h0]) (q_Runs.adv (n := 2) (F' := (165, [(3, .int 0), (2, .ref 43), (1, .ref 0), (0, .ref 1900000)], [.ref 0], z_m_c95)) rfl (q_Runs.call (d := 1299) rfl (z_toP z_r_x7) (q_Runs.adv (n := 1) (F' := (169, [(3, .int 0), (2, .ref 43), (1, .ref 0), (0, .ref 1900000)], [.ref 43, .int (-1)], z_m_x5)) rfl (q_Runs.call (d := 1299) rfl (z_toP z_r_x56) (q_Runs.if2 true rfl z_cmpR rfl (q_Runs.adv (n := 9) (F' := (375, [(3, .int 3), (2, .ref 43), (1, .ref 0), (0, .ref 1900000)], [.int 1], z_m_x54)) rfl (q_Runs.fin rfl))))))))
