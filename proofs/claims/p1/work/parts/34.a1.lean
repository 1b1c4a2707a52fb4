set_option maxRecDepth 1000000 in
theorem z_q143 : q_run q_KL z_Pn 65 1299 200 (0, [(0, .ref 0), (1, .int 0), (2, .int 0)], [], z_m_c95) = some (.inl (some (.int 116)), z_m_c95) := q_isR_ok (w := some (.int 116)) (by decide +kernel)
set_option maxRecDepth 1000000 in
theorem z_q144 : q_run q_KL z_Pn 36 1299 288 (0, [(0, .ref 43), (1, .int 0), (2, .int 0)], [], z_m_c95) = some (.inl (some (.int 116)), z_m_c95) := q_isR_ok (w := some (.int 116)) (by decide +kernel)
set_option maxRecDepth 1000000 in
theorem z_q145 : q_run q_KL z_Pn 65 1299 200 (0, [(0, .ref 0), (1, .int 0), (2, .int 1)], [], z_m_c95) = some (.inl (some (.int 114)), z_m_c95) := q_isR_ok (w := some (.int 114)) (by decide +kernel)
set_option maxRecDepth 1000000 in
theorem z_q146 : q_run q_KL z_Pn 36 1299 288 (0, [(0, .ref 43), (1, .int 0), (2, .int 1)], [], z_m_c95) = some (.inl (some (.int 114)), z_m_c95) := q_isR_ok (w := some (.int 114)) (by decide +kernel)
set_option maxRecDepth 1000000 in
theorem z_q147 : q_run q_KL z_Pn 65 1299 200 (0, [(0, .ref 0), (1, .int 0), (2, .int 2)], [], z_m_c95) = some (.inl (some (.int 117)), z_m_c95) := q_isR_ok (w := some (.int 117)) (by decide +kernel)
set_option maxRecDepth 1000000 in
theorem z_q148 : q_run q_KL z_Pn 36 1299 288 (0, [(0, .ref 43), (1, .int 0), (2, .int 2)], [], z_m_c95) = some (.inl (some (.int 117)), z_m_c95) := q_isR_ok (w := some (.int 117)) (by decide +kernel)
set_option maxRecDepth 1000000 in
theorem z_q149 : q_run q_KL z_Pn 65 1299 200 (0, [(0, .ref 0), (1, .int 0), (2, .int 3)], [], z_m_c95) = some (.inl (some (.int 101)), z_m_c95) := q_isR_ok (w := some (.int 101)) (by decide +kernel)
set_option maxRecDepth 1000000 in
theorem z_q150 : q_run q_KL z_Pn 36 1299 288 (0, [(0, .ref 43), (1, .int 0), (2, .int 3)], [], z_m_c95) = some (.inl (some (.int 101)), z_m_c95) := q_isR_ok (w := some (.int 101)) (by decide +kernel)
set_option maxRecDepth 1000000 in
theorem z_q151 : q_run q_KL z_Pn 65 1299 200 (0, [(0, .ref 0), (1, .int 1), (2, .int 0)], [], z_m_c95) = some (.inl (some (.int 102)), z_m_c95) := q_isR_ok (w := some (.int 102)) (by decide +kernel)
set_option maxRecDepth 1000000 in
theorem z_q152 : q_run q_KL z_Pn 36 1299 288 (0, [(0, .ref 43), (1, .int 1), (2, .int 0)], [], z_m_c95) = some (.inl (some (.int 102)), z_m_c95) := q_isR_ok (w := some (.int 102)) (by decide +kernel)
set_option maxRecDepth 1000000 in
theorem z_q153 : q_run q_KL z_Pn 65 1299 200 (0, [(0, .ref 0), (1, .int 1), (2, .int 1)], [], z_m_c95) = some (.inl (some (.int 97)), z_m_c95) := q_isR_ok (w := some (.int 97)) (by decide +kernel)
set_option maxRecDepth 1000000 in
theorem z_q154 : q_run q_KL z_Pn 36 1299 288 (0, [(0, .ref 43), (1, .int 1), (2, .int 1)], [], z_m_c95) = some (.inl (some (.int 97)), z_m_c95) := q_isR_ok (w := some (.int 97)) (by decide +kernel)
set_option maxRecDepth 1000000 in
theorem z_q155 : q_run q_KL z_Pn 65 1299 200 (0, [(0, .ref 0), (1, .int 1), (2, .int 2)], [], z_m_c95) = some (.inl (some (.int 108)), z_m_c95) := q_isR_ok (w := some (.int 108)) (by decide +kernel)
set_option maxRecDepth 1000000 in
theorem z_q156 : q_run q_KL z_Pn 36 1299 288 (0, [(0, .ref 43), (1, .int 1), (2, .int 2)], [], z_m_c95) = some (.inl (some (.int 108)), z_m_c95) := q_isR_ok (w := some (.int 108)) (by decide +kernel)
set_option maxRecDepth 1000000 in
theorem z_q157 : q_run q_KL z_Pn 65 1299 200 (0, [(0, .ref 0), (1, .int 1), (2, .int 3)], [], z_m_c95) = some (.inl (some (.int 115)), z_m_c95) := q_isR_ok (w := some (.int 115)) (by decide +kernel)
set_option maxRecDepth 1000000 in
theorem z_q158 : q_run q_KL z_Pn 36 1299 288 (0, [(0, .ref 43), (1, .int 1), (2, .int 3)], [], z_m_c95) = some (.inl (some (.int 115)), z_m_c95) := q_isR_ok (w := some (.int 115)) (by decide +kernel)
set_option maxRecDepth 1000000 in
theorem z_q159 : q_run q_KL z_Pn 65 1299 200 (0, [(0, .ref 0), (1, .int 1), (2, .int 4)], [], z_m_c95) = some (.inl (some (.int 101)), z_m_c95) := q_isR_ok (w := some (.int 101)) (by decide +kernel)
set_option maxRecDepth 1000000 in
theorem z_q160 : q_run q_KL z_Pn 36 1299 288 (0, [(0, .ref 43), (1, .int 1), (2, .int 4)], [], z_m_c95) = some (.inl (some (.int 101)), z_m_c95) := q_isR_ok (w := some (.int 101)) (by decide +kernel)
set_option maxRecDepth 1000000 in
theorem z_q161 : q_run q_KL z_Pn 65 1299 200 (0, [(0, .ref 0), (1, .int 2), (2, .int 0)], [], z_m_c95) = some (.inl (some (.int 110)), z_m_c95) := q_isR_ok (w := some (.int 110)) (by decide +kernel)
set_option maxRecDepth 1000000 in
theorem z_q162 : q_run q_KL z_Pn 36 1299 288 (0, [(0, .ref 43), (1, .int 2), (2, .int 0)], [], z_m_c95) = some (.inl (some (.int 110)), z_m_c95) := q_isR_ok (w := some (.int 110)) (by decide +kernel)
set_option maxRecDepth 1000000 in
theorem z_q163 : q_run q_KL z_Pn 65 1299 200 (0, [(0, .ref 0), (1, .int 2), (2, .int 1)], [], z_m_c95) = some (.inl (some (.int 105)), z_m_c95) := q_isR_ok (w := some (.int 105)) (by decide +kernel)
set_option maxRecDepth 1000000 in
theorem z_q164 : q_run q_KL z_Pn 36 1299 288 (0, [(0, .ref 43), (1, .int 2), (2, .int 1)], [], z_m_c95) = some (.inl (some (.int 105)), z_m_c95) := q_isR_ok (w := some (.int 105)) (by decide +kernel)
set_option maxRecDepth 1000000 in
theorem z_q165 : q_run q_KL z_Pn 65 1299 200 (0, [(0, .ref 0), (1, .int 2), (2, .int 2)], [], z_m_c95) = some (.inl (some (.int 108)), z_m_c95) := q_isR_ok (w := some (.int 108)) (by decide +kernel)
set_option maxRecDepth 1000000 in
theorem z_q166 : q_run q_KL z_Pn 36 1299 288 (0, [(0, .ref 43), (1, .int 2), (2, .int 2)], [], z_m_c95) = some (.inl (some (.int 108)), z_m_c95) := q_isR_ok (w := some (.int 108)) (by decide +kernel)
set_option maxRecDepth 1000000 in
theorem z_q167 : q_run q_KL z_Pn 65 1299 200 (0, [(0, .ref 0), (1, .int 3), (2, .int 0)], [], z_m_c95) = some (.inl (some (.int 124)), z_m_c95) := q_isR_ok (w := some (.int 124)) (by decide +kernel)
set_option maxRecDepth 1000000 in
theorem z_q168 : q_run q_KL z_Pn 36 1299 288 (0, [(0, .ref 43), (1, .int 3), (2, .int 0)], [], z_m_c95) = some (.inl (some (.int 124)), z_m_c95) := q_isR_ok (w := some (.int 124)) (by decide +kernel)
set_option maxRecDepth 1000000 in
theorem z_q169 : q_run q_KL z_Pn 65 1299 200 (0, [(0, .ref 0), (1, .int 4), (2, .int 0)], [], z_m_c95) = some (.inl (some (.int 110)), z_m_c95) := q_isR_ok (w := some (.int 110)) (by decide +kernel)
set_option maxRecDepth 1000000 in
theorem z_q170 : q_run q_KL z_Pn 36 1299 288 (0, [(0, .ref 43), (1, .int 4), (2, .int 0)], [], z_m_c95) = some (.inl (some (.int 110)), z_m_c95) := q_isR_ok (w := some (.int 110)) (by decide +kernel)
set_option maxRecDepth 1000000 in
theorem z_q171 : q_run q_KL z_Pn 65 1299 200 (0, [(0, .ref 0), (1, .int 4), (2, .int 1)], [], z_m_c95) = some (.inl (some (.int 111)), z_m_c95) := q_isR_ok (w := some (.int 111)) (by decide +kernel)
set_option maxRecDepth 1000000 in
theorem z_q172 : q_run q_KL z_Pn 36 1299 288 (0, [(0, .ref 43), (1, .int 4), (2, .int 1)], [], z_m_c95) = some (.inl (some (.int 111)), z_m_c95) := q_isR_ok (w := some (.int 111)) (by decide +kernel)
set_option maxRecDepth 1000000 in
theorem z_q173 : q_run q_KL z_Pn 65 1299 200 (0, [(0, .ref 0), (1, .int 4), (2, .int 2)], [], z_m_c95) = some (.inl (some (.int 109)), z_m_c95) := q_isR_ok (w := some (.int 109)) (by decide +kernel)
set_option maxRecDepth 1000000 in
theorem z_q174 : q_run q_KL z_Pn 36 1299 288 (0, [(0, .ref 43), (1, .int 4), (2, .int 2)], [], z_m_c95) = some (.inl (some (.int 109)), z_m_c95) := q_isR_ok (w := some (.int 109)) (by decide +kernel)
set_option maxRecDepth 1000000 in
theorem z_q175 : q_run q_KL z_Pn 65 1299 200 (0, [(0, .ref 0), (1, .int 4), (2, .int 3)], [], z_m_c95) = some (.inl (some (.int 97)), z_m_c95) := q_isR_ok (w := some (.int 97)) (by decide +kernel)
set_option maxRecDepth 1000000 in
theorem z_q176 : q_run q_KL z_Pn 36 1299 288 (0, [(0, .ref 43), (1, .int 4), (2, .int 3)], [], z_m_c95) = some (.inl (some (.int 97)), z_m_c95) := q_isR_ok (w := some (.int 97)) (by decide +kernel)
set_option maxRecDepth 1000000 in
theorem z_q177 : q_run q_KL z_Pn 65 1299 200 (0, [(0, .ref 0), (1, .int 4), (2, .int 4)], [], z_m_c95) = some (.inl (some (.int 116)), z_m_c95) := q_isR_ok (w := some (.int 116)) (by decide +kernel)
set_option maxRecDepth 1000000 in
theorem z_q178 : q_run q_KL z_Pn 36 1299 288 (0, [(0, .ref 43), (1, .int 4), (2, .int 4)], [], z_m_c95) = some (.inl (some (.int 116)), z_m_c95) := q_isR_ok (w := some (.int 116)) (by decide +kernel)
set_option maxRecDepth 1000000 in
theorem z_q179 : q_run q_KL z_Pn 65 1299 200 (0, [(0, .ref 0), (1, .int 4), (2, .int 5)], [], z_m_c95) = some (.inl (some (.int 99)), z_m_c95) := q_isR_ok (w := some (.int 99)) (by decide +kernel)
set_option maxRecDepth 1000000 in
theorem z_q180 : q_run q_KL z_Pn 36 1299 288 (0, [(0, .ref 43), (1, .int 4), (2, .int 5)], [], z_m_c95) = some (.inl (some (.int 99)), z_m_c95) := q_isR_ok (w := some (.int 99)) (by decide +kernel)
set_option maxRecDepth 1000000 in
theorem z_q181 : q_run q_KL z_Pn 65 1299 200 (0, [(0, .ref 0), (1, .int 4), (2, .int 6)], [], z_m_c95) = some (.inl (some (.int 104)), z_m_c95) := q_isR_ok (w := some (.int 104)) (by decide +kernel)
set_option maxRecDepth 1000000 in
theorem z_q182 : q_run q_KL z_Pn 36 1299 288 (0, [(0, .ref 43), (1, .int 4), (2, .int 6)], [], z_m_c95) = some (.inl (some (.int 104)), z_m_c95) := q_isR_ok (w := some (.int 104)) (by decide +kernel)
set_option maxRecDepth 1000000 in
theorem z_q183 : q_run q_KL z_Pn 65 1299 200 (0, [(0, .ref 0), (1, .int 5), (2, .int 0)], [], z_m_c95) = some (.inl (some (.int 102)), z_m_c95) := q_isR_ok (w := some (.int 102)) (by decide +kernel)
set_option maxRecDepth 1000000 in
theorem z_q184 : q_run q_KL z_Pn 36 1299 288 (0, [(0, .ref 43), (1, .int 5), (2, .int 0)], [], z_m_c95) = some (.inl (some (.int 102)), z_m_c95) := q_isR_ok (w := some (.int 102)) (by decide +kernel)
set_option maxRecDepth 1000000 in
theorem z_q185 : q_run q_KL z_Pn 65 1299 200 (0, [(0, .ref 0), (1, .int 5), (2, .int 1)], [], z_m_c95) = some (.inl (some (.int 97)), z_m_c95) := q_isR_ok (w := some (.int 97)) (by decide +kernel)
set_option maxRecDepth 1000000 in
theorem z_q186 : q_run q_KL z_Pn 36 1299 288 (0, [(0, .ref 43), (1, .int 5), (2, .int 1)], [], z_m_c95) = some (.inl (some (.int 97)), z_m_c95) := q_isR_ok (w := some (.int 97)) (by decide +kernel)
set_option maxRecDepth 1000000 in
theorem z_q187 : q_run q_KL z_Pn 65 1299 200 (0, [(0, .ref 0), (1, .int 5), (2, .int 2)], [], z_m_c95) = some (.inl (some (.int 105)), z_m_c95) := q_isR_ok (w := some (.int 105)) (by decide +kernel)
set_option maxRecDepth 1000000 in
theorem z_q188 : q_run q_KL z_Pn 36 1299 288 (0, [(0, .ref 43), (1, .int 5), (2, .int 2)], [], z_m_c95) = some (.inl (some (.int 105)), z_m_c95) := q_isR_ok (w := some (.int 105)) (by decide +kernel)
set_option maxRecDepth 1000000 in
theorem z_q189 : q_run q_KL z_Pn 65 1299 200 (0, [(0, .ref 0), (1, .int 5), (2, .int 3)], [], z_m_c95) = some (.inl (some (.int 108)), z_m_c95) := q_isR_ok (w := some (.int 108)) (by decide +kernel)
set_option maxRecDepth 1000000 in
theorem z_q190 : q_run q_KL z_Pn 36 1299 288 (0, [(0, .ref 43), (1, .int 5), (2, .int 3)], [], z_m_c95) = some (.inl (some (.int 108)), z_m_c95) := q_isR_ok (w := some (.int 108)) (by decide +kernel)
set_option maxRecDepth 1000000 in
theorem z_q191 : q_run q_KL z_Pn 65 1299 200 (0, [(0, .ref 0), (1, .int 5), (2, .int 4)], [], z_m_c95) = some (.inl (some (.int 117)), z_m_c95) := q_isR_ok (w := some (.int 117)) (by decide +kernel)
set_option maxRecDepth 1000000 in
theorem z_q192 : q_run q_KL z_Pn 36 1299 288 (0, [(0, .ref 43), (1, .int 5), (2, .int 4)], [], z_m_c95) = some (.inl (some (.int 117)), z_m_c95) := q_isR_ok (w := some (.int 117)) (by decide +kernel)
set_option maxRecDepth 1000000 in
theorem z_q193 : q_run q_KL z_Pn 65 1299 200 (0, [(0, .ref 0), (1, .int 5), (2, .int 5)], [], z_m_c95) = some (.inl (some (.int 114)), z_m_c95) := q_isR_ok (w := some (.int 114)) (by decide +kernel)
set_option maxRecDepth 1000000 in
theorem z_q194 : q_run q_KL z_Pn 36 1299 288 (0, [(0, .ref 43), (1, .int 5), (2, .int 5)], [], z_m_c95) = some (.inl (some (.int 114)), z_m_c95) := q_isR_ok (w := some (.int 114)) (by decide +kernel)
set_option maxRecDepth 1000000 in
theorem z_q195 : q_run q_KL z_Pn 65 1299 200 (0, [(0, .ref 0), (1, .int 5), (2, .int 6)], [], z_m_c95) = some (.inl (some (.int 101)), z_m_c95) := q_isR_ok (w := some (.int 101)) (by decide +kernel)
set_option maxRecDepth 1000000 in
theorem z_q196 : q_run q_KL z_Pn 36 1299 288 (0, [(0, .ref 43), (1, .int 5), (2, .int 6)], [], z_m_c95) = some (.inl (some (.int 101)), z_m_c95) := q_isR_ok (w := some (.int 101)) (by decide +kernel)
set_option maxRecDepth 1000000 in
theorem z_q197 : q_run q_KL z_Pn 65 1299 200 (0, [(0, .ref 0), (1, .int 6), (2, .int 0)], [], z_m_c95) = some (.inl (some (.int 122)), z_m_c95) := q_isR_ok (w := some (.int 122)) (by decide +kernel)
set_option maxRecDepth 1000000 in
theorem z_q198 : q_run q_KL z_Pn 36 1299 288 (0, [(0, .ref 43), (1, .int 6), (2, .int 0)], [], z_m_c95) = some (.inl (some (.int 122)), z_m_c95) := q_isR_ok (w := some (.int 122)) (by decide +kernel)
set_option maxRecDepth 1000000 in
theorem z_q199 : q_run q_KL z_Pn 65 1299 200 (0, [(0, .ref 0), (1, .int 6), (2, .int 1)], [], z_m_c95) = some (.inl (some (.int 101)), z_m_c95) := q_isR_ok (w := some (.int 101)) (by decide +kernel)
set_option maxRecDepth 1000000 in
theorem z_q200 : q_run q_KL z_Pn 36 1299 288 (0, [(0, .ref 43), (1, .int 6), (2, .int 1)], [], z_m_c95) = some (.inl (some (.int 101)), z_m_c95) := q_isR_ok (w := some (.int 101)) (by decide +kernel)
set_option maxRecDepth 1000000 in
theorem z_q201 : q_run q_KL z_Pn 65 1299 200 (0, [(0, .ref 0), (1, .int 6), (2, .int 2)], [], z_m_c95) = some (.inl (some (.int 114)), z_m_c95) := q_isR_ok (w := some (.int 114)) (by decide +kernel)
set_option maxRecDepth 1000000 in
theorem z_q202 : q_run q_KL z_Pn 36 1299 288 (0, [(0, .ref 43), (1, .int 6), (2, .int 2)], [], z_m_c95) = some (.inl (some (.int 114)), z_m_c95) := q_isR_ok (w := some (.int 114)) (by decide +kernel)
set_option maxRecDepth 1000000 in
theorem z_q203 : q_run q_KL z_Pn 65 1299 200 (0, [(0, .ref 0), (1, .int 6), (2, .int 3)], [], z_m_c95) = some (.inl (some (.int 111)), z_m_c95) := q_isR_ok (w := some (.int 111)) (by decide +kernel)
set_option maxRecDepth 1000000 in
theorem z_q204 : q_run q_KL z_Pn 36 1299 288 (0, [(0, .ref 43), (1, .int 6), (2, .int 3)], [], z_m_c95) = some (.inl (some (.int 111)), z_m_c95) := q_isR_ok (w := some (.int 111)) (by decide +kernel)
set_option maxRecDepth 1000000 in
theorem z_q205 : q_run q_KL z_Pn 65 1299 200 (0, [(0, .ref 0), (1, .int 7), (2, .int 0)], [], z_m_c95) = some (.inl (some (.int 107)), z_m_c95) := q_isR_ok (w := some (.int 107)) (by decide +kernel)
set_option maxRecDepth 1000000 in
theorem z_q206 : q_run q_KL z_Pn 36 1299 288 (0, [(0, .ref 43), (1, .int 7), (2, .int 0)], [], z_m_c95) = some (.inl (some (.int 107)), z_m_c95) := q_isR_ok (w := some (.int 107)) (by decide +kernel)
set_option maxRecDepth 1000000 in
theorem z_q207 : q_run q_KL z_Pn 65 1299 200 (0, [(0, .ref 0), (1, .int 7), (2, .int 1)], [], z_m_c95) = some (.inl (some (.int 105)), z_m_c95) := q_isR_ok (w := some (.int 105)) (by decide +kernel)
set_option maxRecDepth 1000000 in
theorem z_q208 : q_run q_KL z_Pn 36 1299 288 (0, [(0, .ref 43), (1, .int 7), (2, .int 1)], [], z_m_c95) = some (.inl (some (.int 105)), z_m_c95) := q_isR_ok (w := some (.int 105)) (by decide +kernel)
set_option maxRecDepth 1000000 in
theorem z_q209 : q_run q_KL z_Pn 65 1299 200 (0, [(0, .ref 0), (1, .int 7), (2, .int 2)], [], z_m_c95) = some (.inl (some (.int 110)), z_m_c95) := q_isR_ok (w := some (.int 110)) (by decide +kernel)
set_option maxRecDepth 1000000 in
theorem z_q210 : q_run q_KL z_Pn 36 1299 288 (0, [(0, .ref 43), (1, .int 7), (2, .int 2)], [], z_m_c95) = some (.inl (some (.int 110)), z_m_c95) := q_isR_ok (w := some (.int 110)) (by decide +kernel)
set_option maxRecDepth 1000000 in
theorem z_q211 : q_run q_KL z_Pn 65 1299 200 (0, [(0, .ref 0), (1, .int 7), (2, .int 3)], [], z_m_c95) = some (.inl (some (.int 100)), z_m_c95) := q_isR_ok (w := some (.int 100)) (by decide +kernel)
set_option maxRecDepth 1000000 in
theorem z_q212 : q_run q_KL z_Pn 36 1299 288 (0, [(0, .ref 43), (1, .int 7), (2, .int 3)], [], z_m_c95) = some (.inl (some (.int 100)), z_m_c95) := q_isR_ok (w := some (.int 100)) (by decide +kernel)
set_option maxRecDepth 1000000 in
theorem z_q213 : q_run q_KL z_Pn 65 1299 200 (0, [(0, .ref 0), (1, .int 8), (2, .int 0)], [], z_m_c95) = some (.inl (some (.int 97)), z_m_c95) := q_isR_ok (w := some (.int 97)) (by decide +kernel)
set_option maxRecDepth 1000000 in
theorem z_q214 : q_run q_KL z_Pn 36 1299 288 (0, [(0, .ref 43), (1, .int 8), (2, .int 0)], [], z_m_c95) = some (.inl (some (.int 97)), z_m_c95) := q_isR_ok (w := some (.int 97)) (by decide +kernel)
set_option maxRecDepth 1000000 in
theorem z_q215 : q_run q_KL z_Pn 65 1299 200 (0, [(0, .ref 0), (1, .int 8), (2, .int 1)], [], z_m_c95) = some (.inl (some (.int 114)), z_m_c95) := q_isR_ok (w := some (.int 114)) (by decide +kernel)
set_option maxRecDepth 1000000 in
theorem z_q216 : q_run q_KL z_Pn 36 1299 288 (0, [(0, .ref 43), (1, .int 8), (2, .int 1)], [], z_m_c95) = some (.inl (some (.int 114)), z_m_c95) := q_isR_ok (w := some (.int 114)) (by decide +kernel)
set_option maxRecDepth 1000000 in
theorem z_q217 : q_run q_KL z_Pn 65 1299 200 (0, [(0, .ref 0), (1, .int 8), (2, .int 2)], [], z_m_c95) = some (.inl (some (.int 105)), z_m_c95) := q_isR_ok (w := some (.int 105)) (by decide +kernel)
set_option maxRecDepth 1000000 in
theorem z_q218 : q_run q_KL z_Pn 36 1299 288 (0, [(0, .ref 43), (1, .int 8), (2, .int 2)], [], z_m_c95) = some (.inl (some (.int 105)), z_m_c95) := q_isR_ok (w := some (.int 105)) (by decide +kernel)
set_option maxRecDepth 1000000 in
theorem z_q219 : q_run q_KL z_Pn 65 1299 200 (0, [(0, .ref 0), (1, .int 8), (2, .int 3)], [], z_m_c95) = some (.inl (some (.int 116)), z_m_c95) := q_isR_ok (w := some (.int 116)) (by decide +kernel)
set_option maxRecDepth 1000000 in
theorem z_q220 : q_run q_KL z_Pn 36 1299 288 (0, [(0, .ref 43), (1, .int 8), (2, .int 3)], [], z_m_c95) = some (.inl (some (.int 116)), z_m_c95) := q_isR_ok (w := some (.int 116)) (by decide +kernel)
set_option maxRecDepth 1000000 in
theorem z_q221 : q_run q_KL z_Pn 65 1299 200 (0, [(0, .ref 0), (1, .int 8), (2, .int 4)], [], z_m_c95) = some (.inl (some (.int 121)), z_m_c95) := q_isR_ok (w := some (.int 121)) (by decide +kernel)
set_option maxRecDepth 1000000 in
theorem z_q222 : q_run q_KL z_Pn 36 1299 288 (0, [(0, .ref 43), (1, .int 8), (2, .int 4)], [], z_m_c95) = some (.inl (some (.int 121)), z_m_c95) := q_isR_ok (w := some (.int 121)) (by decide +kernel)
set_option maxRecDepth 1000000 in
theorem z_q223 : q_run q_KL z_Pn 65 1299 200 (0, [(0, .ref 0), (1, .int 9), (2, .int 0)], [], z_m_c95) = some (.inl (some (.int 102)), z_m_c95) := q_isR_ok (w := some (.int 102)) (by decide +kernel)
set_option maxRecDepth 1000000 in
theorem z_q224 : q_run q_KL z_Pn 36 1299 288 (0, [(0, .ref 43), (1, .int 9), (2, .int 0)], [], z_m_c95) = some (.inl (some (.int 102)), z_m_c95) := q_isR_ok (w := some (.int 102)) (by decide +kernel)
set_option maxRecDepth 1000000 in
theorem z_q225 : q_run q_KL z_Pn 65 1299 200 (0, [(0, .ref 0), (1, .int 9), (2, .int 1)], [], z_m_c95) = some (.inl (some (.int 101)), z_m_c95) := q_isR_ok (w := some (.int 101)) (by decide +kernel)
set_option maxRecDepth 1000000 in
theorem z_q226 : q_run q_KL z_Pn 36 1299 288 (0, [(0, .ref 43), (1, .int 9), (2, .int 1)], [], z_m_c95) = some (.inl (some (.int 101)), z_m_c95) := q_isR_ok (w := some (.int 101)) (by decide +kernel)
set_option maxRecDepth 1000000 in
theorem z_q227 : q_run q_KL z_Pn 65 1299 200 (0, [(0, .ref 0), (1, .int 9), (2, .int 2)], [], z_m_c95) = some (.inl (some (.int 97)), z_m_c95) := q_isR_ok (w := some (.int 97)) (by decide +kernel)
set_option maxRecDepth 1000000 in
theorem z_q228 : q_run q_KL z_Pn 36 1299 288 (0, [(0, .ref 43), (1, .int 9), (2, .int 2)], [], z_m_c95) = some (.inl (some (.int 97)), z_m_c95) := q_isR_ok (w := some (.int 97)) (by decide +kernel)
set_option maxRecDepth 1000000 in
theorem z_q229 : q_run q_KL z_Pn 65 1299 200 (0, [(0, .ref 0), (1, .int 9), (2, .int 3)], [], z_m_c95) = some (.inl (some (.int 116)), z_m_c95) := q_isR_ok (w := some (.int 116)) (by decide +kernel)
set_option maxRecDepth 1000000 in
theorem z_q230 : q_run q_KL z_Pn 36 1299 288 (0, [(0, .ref 43), (1, .int 9), (2, .int 3)], [], z_m_c95) = some (.inl (some (.int 116)), z_m_c95) := q_isR_ok (w := some (.int 116)) (by decide +kernel)
set_option maxRecDepth 1000000 in
theorem z_q231 : q_run q_KL z_Pn 65 1299 200 (0, [(0, .ref 0), (1, .int 9), (2, .int 4)], [], z_m_c95) = some (.inl (some (.int 117)), z_m_c95) := q_isR_ok (w := some (.int 117)) (by decide +kernel)
set_option maxRecDepth 1000000 in
theorem z_q232 : q_run q_KL z_Pn 36 1299 288 (0, [(0, .ref 43), (1, .int 9), (2, .int 4)], [], z_m_c95) = some (.inl (some (.int 117)), z_m_c95) := q_isR_ok (w := some (.int 117)) (by decide +kernel)
set_option maxRecDepth 1000000 in
theorem z_q233 : q_run q_KL z_Pn 65 1299 200 (0, [(0, .ref 0), (1, .int 9), (2, .int 5)], [], z_m_c95) = some (.inl (some (.int 114)), z_m_c95) := q_isR_ok (w := some (.int 114)) (by decide +kernel)
set_option maxRecDepth 1000000 in
theorem z_q234 : q_run q_KL z_Pn 36 1299 288 (0, [(0, .ref 43), (1, .int 9), (2, .int 5)], [], z_m_c95) = some (.inl (some (.int 114)), z_m_c95) := q_isR_ok (w := some (.int 114)) (by decide +kernel)
set_option maxRecDepth 1000000 in
theorem z_q235 : q_run q_KL z_Pn 65 1299 200 (0, [(0, .ref 0), (1, .int 9), (2, .int 6)], [], z_m_c95) = some (.inl (some (.int 101)), z_m_c95) := q_isR_ok (w := some (.int 101)) (by decide +kernel)
set_option maxRecDepth 1000000 in
theorem z_q236 : q_run q_KL z_Pn 36 1299 288 (0, [(0, .ref 43), (1, .int 9), (2, .int 6)], [], z_m_c95) = some (.inl (some (.int 101)), z_m_c95) := q_isR_ok (w := some (.int 101)) (by decide +kernel)
