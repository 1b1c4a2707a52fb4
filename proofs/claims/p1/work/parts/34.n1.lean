set_option maxRecDepth 1000000 in
theorem z_q337 : q_run q_KL z_Pn 73 1299 201 (0, [(0, .ref 0), (1, .int 0), (2, .int 0)], [], z_m_c95) = some (.inl (some (.int 87)), z_m_c95) := q_isR_ok (w := some (.int 87)) (by decide +kernel)
set_option maxRecDepth 1000000 in
theorem z_q338 : q_run q_KL z_Pn 49 1299 309 (0, [(0, .ref 43), (1, .int 0), (2, .int 0)], [], z_m_c95) = some (.inl (some (.int 87)), z_m_c95) := q_isR_ok (w := some (.int 87)) (by decide +kernel)
set_option maxRecDepth 1000000 in
theorem z_q339 : q_run q_KL z_Pn 73 1299 201 (0, [(0, .ref 0), (1, .int 0), (2, .int 1)], [], z_m_c95) = some (.inl (some (.int 97)), z_m_c95) := q_isR_ok (w := some (.int 97)) (by decide +kernel)
set_option maxRecDepth 1000000 in
theorem z_q340 : q_run q_KL z_Pn 49 1299 309 (0, [(0, .ref 43), (1, .int 0), (2, .int 1)], [], z_m_c95) = some (.inl (some (.int 97)), z_m_c95) := q_isR_ok (w := some (.int 97)) (by decide +kernel)
set_option maxRecDepth 1000000 in
theorem z_q341 : q_run q_KL z_Pn 73 1299 201 (0, [(0, .ref 0), (1, .int 0), (2, .int 2)], [], z_m_c95) = some (.inl (some (.int 105)), z_m_c95) := q_isR_ok (w := some (.int 105)) (by decide +kernel)
set_option maxRecDepth 1000000 in
theorem z_q342 : q_run q_KL z_Pn 49 1299 309 (0, [(0, .ref 43), (1, .int 0), (2, .int 2)], [], z_m_c95) = some (.inl (some (.int 105)), z_m_c95) := q_isR_ok (w := some (.int 105)) (by decide +kernel)
set_option maxRecDepth 1000000 in
theorem z_q343 : q_run q_KL z_Pn 73 1299 201 (0, [(0, .ref 0), (1, .int 0), (2, .int 3)], [], z_m_c95) = some (.inl (some (.int 116)), z_m_c95) := q_isR_ok (w := some (.int 116)) (by decide +kernel)
set_option maxRecDepth 1000000 in
theorem z_q344 : q_run q_KL z_Pn 49 1299 309 (0, [(0, .ref 43), (1, .int 0), (2, .int 3)], [], z_m_c95) = some (.inl (some (.int 116)), z_m_c95) := q_isR_ok (w := some (.int 116)) (by decide +kernel)
set_option maxRecDepth 1000000 in
theorem z_q345 : q_run q_KL z_Pn 73 1299 201 (0, [(0, .ref 0), (1, .int 1), (2, .int 0)], [], z_m_c95) = some (.inl (some (.int 78)), z_m_c95) := q_isR_ok (w := some (.int 78)) (by decide +kernel)
set_option maxRecDepth 1000000 in
theorem z_q346 : q_run q_KL z_Pn 49 1299 309 (0, [(0, .ref 43), (1, .int 1), (2, .int 0)], [], z_m_c95) = some (.inl (some (.int 78)), z_m_c95) := q_isR_ok (w := some (.int 78)) (by decide +kernel)
set_option maxRecDepth 1000000 in
theorem z_q347 : q_run q_KL z_Pn 73 1299 201 (0, [(0, .ref 0), (1, .int 1), (2, .int 1)], [], z_m_c95) = some (.inl (some (.int 101)), z_m_c95) := q_isR_ok (w := some (.int 101)) (by decide +kernel)
set_option maxRecDepth 1000000 in
theorem z_q348 : q_run q_KL z_Pn 49 1299 309 (0, [(0, .ref 43), (1, .int 1), (2, .int 1)], [], z_m_c95) = some (.inl (some (.int 101)), z_m_c95) := q_isR_ok (w := some (.int 101)) (by decide +kernel)
set_option maxRecDepth 1000000 in
theorem z_q349 : q_run q_KL z_Pn 73 1299 201 (0, [(0, .ref 0), (1, .int 1), (2, .int 2)], [], z_m_c95) = some (.inl (some (.int 101)), z_m_c95) := q_isR_ok (w := some (.int 101)) (by decide +kernel)
set_option maxRecDepth 1000000 in
theorem z_q350 : q_run q_KL z_Pn 49 1299 309 (0, [(0, .ref 43), (1, .int 1), (2, .int 2)], [], z_m_c95) = some (.inl (some (.int 101)), z_m_c95) := q_isR_ok (w := some (.int 101)) (by decide +kernel)
set_option maxRecDepth 1000000 in
theorem z_q351 : q_run q_KL z_Pn 73 1299 201 (0, [(0, .ref 0), (1, .int 1), (2, .int 3)], [], z_m_c95) = some (.inl (some (.int 100)), z_m_c95) := q_isR_ok (w := some (.int 100)) (by decide +kernel)
set_option maxRecDepth 1000000 in
theorem z_q352 : q_run q_KL z_Pn 49 1299 309 (0, [(0, .ref 43), (1, .int 1), (2, .int 3)], [], z_m_c95) = some (.inl (some (.int 100)), z_m_c95) := q_isR_ok (w := some (.int 100)) (by decide +kernel)
set_option maxRecDepth 1000000 in
theorem z_q353 : q_run q_KL z_Pn 73 1299 201 (0, [(0, .ref 0), (1, .int 1), (2, .int 4)], [], z_m_c95) = some (.inl (some (.int 101)), z_m_c95) := q_isR_ok (w := some (.int 101)) (by decide +kernel)
set_option maxRecDepth 1000000 in
theorem z_q354 : q_run q_KL z_Pn 49 1299 309 (0, [(0, .ref 43), (1, .int 1), (2, .int 4)], [], z_m_c95) = some (.inl (some (.int 101)), z_m_c95) := q_isR_ok (w := some (.int 101)) (by decide +kernel)
set_option maxRecDepth 1000000 in
theorem z_q355 : q_run q_KL z_Pn 73 1299 201 (0, [(0, .ref 0), (1, .int 1), (2, .int 5)], [], z_m_c95) = some (.inl (some (.int 100)), z_m_c95) := q_isR_ok (w := some (.int 100)) (by decide +kernel)
set_option maxRecDepth 1000000 in
theorem z_q356 : q_run q_KL z_Pn 49 1299 309 (0, [(0, .ref 43), (1, .int 1), (2, .int 5)], [], z_m_c95) = some (.inl (some (.int 100)), z_m_c95) := q_isR_ok (w := some (.int 100)) (by decide +kernel)
set_option maxRecDepth 1000000 in
theorem z_q357 : q_run q_KL z_Pn 73 1299 201 (0, [(0, .ref 0), (1, .int 2), (2, .int 0)], [], z_m_c95) = some (.inl (some (.int 66)), z_m_c95) := q_isR_ok (w := some (.int 66)) (by decide +kernel)
set_option maxRecDepth 1000000 in
theorem z_q358 : q_run q_KL z_Pn 49 1299 309 (0, [(0, .ref 43), (1, .int 2), (2, .int 0)], [], z_m_c95) = some (.inl (some (.int 66)), z_m_c95) := q_isR_ok (w := some (.int 66)) (by decide +kernel)
set_option maxRecDepth 1000000 in
theorem z_q359 : q_run q_KL z_Pn 73 1299 201 (0, [(0, .ref 0), (1, .int 2), (2, .int 1)], [], z_m_c95) = some (.inl (some (.int 121)), z_m_c95) := q_isR_ok (w := some (.int 121)) (by decide +kernel)
set_option maxRecDepth 1000000 in
theorem z_q360 : q_run q_KL z_Pn 49 1299 309 (0, [(0, .ref 43), (1, .int 2), (2, .int 1)], [], z_m_c95) = some (.inl (some (.int 121)), z_m_c95) := q_isR_ok (w := some (.int 121)) (by decide +kernel)
set_option maxRecDepth 1000000 in
theorem z_q361 : q_run q_KL z_Pn 73 1299 201 (0, [(0, .ref 0), (1, .int 2), (2, .int 2)], [], z_m_c95) = some (.inl (some (.int 78)), z_m_c95) := q_isR_ok (w := some (.int 78)) (by decide +kernel)
set_option maxRecDepth 1000000 in
theorem z_q362 : q_run q_KL z_Pn 49 1299 309 (0, [(0, .ref 43), (1, .int 2), (2, .int 2)], [], z_m_c95) = some (.inl (some (.int 78)), z_m_c95) := q_isR_ok (w := some (.int 78)) (by decide +kernel)
set_option maxRecDepth 1000000 in
theorem z_q363 : q_run q_KL z_Pn 73 1299 201 (0, [(0, .ref 0), (1, .int 2), (2, .int 3)], [], z_m_c95) = some (.inl (some (.int 101)), z_m_c95) := q_isR_ok (w := some (.int 101)) (by decide +kernel)
set_option maxRecDepth 1000000 in
theorem z_q364 : q_run q_KL z_Pn 49 1299 309 (0, [(0, .ref 43), (1, .int 2), (2, .int 3)], [], z_m_c95) = some (.inl (some (.int 101)), z_m_c95) := q_isR_ok (w := some (.int 101)) (by decide +kernel)
set_option maxRecDepth 1000000 in
theorem z_q365 : q_run q_KL z_Pn 73 1299 201 (0, [(0, .ref 0), (1, .int 2), (2, .int 4)], [], z_m_c95) = some (.inl (some (.int 101)), z_m_c95) := q_isR_ok (w := some (.int 101)) (by decide +kernel)
set_option maxRecDepth 1000000 in
theorem z_q366 : q_run q_KL z_Pn 49 1299 309 (0, [(0, .ref 43), (1, .int 2), (2, .int 4)], [], z_m_c95) = some (.inl (some (.int 101)), z_m_c95) := q_isR_ok (w := some (.int 101)) (by decide +kernel)
set_option maxRecDepth 1000000 in
theorem z_q367 : q_run q_KL z_Pn 73 1299 201 (0, [(0, .ref 0), (1, .int 2), (2, .int 5)], [], z_m_c95) = some (.inl (some (.int 100)), z_m_c95) := q_isR_ok (w := some (.int 100)) (by decide +kernel)
set_option maxRecDepth 1000000 in
theorem z_q368 : q_run q_KL z_Pn 49 1299 309 (0, [(0, .ref 43), (1, .int 2), (2, .int 5)], [], z_m_c95) = some (.inl (some (.int 100)), z_m_c95) := q_isR_ok (w := some (.int 100)) (by decide +kernel)
set_option maxRecDepth 1000000 in
theorem z_q369 : q_run q_KL z_Pn 73 1299 201 (0, [(0, .ref 0), (1, .int 3), (2, .int 0)], [], z_m_c95) = some (.inl (some (.int 78)), z_m_c95) := q_isR_ok (w := some (.int 78)) (by decide +kernel)
set_option maxRecDepth 1000000 in
theorem z_q370 : q_run q_KL z_Pn 49 1299 309 (0, [(0, .ref 43), (1, .int 3), (2, .int 0)], [], z_m_c95) = some (.inl (some (.int 78)), z_m_c95) := q_isR_ok (w := some (.int 78)) (by decide +kernel)
set_option maxRecDepth 1000000 in
theorem z_q371 : q_run q_KL z_Pn 73 1299 201 (0, [(0, .ref 0), (1, .int 3), (2, .int 1)], [], z_m_c95) = some (.inl (some (.int 101)), z_m_c95) := q_isR_ok (w := some (.int 101)) (by decide +kernel)
set_option maxRecDepth 1000000 in
theorem z_q372 : q_run q_KL z_Pn 49 1299 309 (0, [(0, .ref 43), (1, .int 3), (2, .int 1)], [], z_m_c95) = some (.inl (some (.int 101)), z_m_c95) := q_isR_ok (w := some (.int 101)) (by decide +kernel)
set_option maxRecDepth 1000000 in
theorem z_q373 : q_run q_KL z_Pn 73 1299 201 (0, [(0, .ref 0), (1, .int 3), (2, .int 2)], [], z_m_c95) = some (.inl (some (.int 119)), z_m_c95) := q_isR_ok (w := some (.int 119)) (by decide +kernel)
set_option maxRecDepth 1000000 in
theorem z_q374 : q_run q_KL z_Pn 49 1299 309 (0, [(0, .ref 43), (1, .int 3), (2, .int 2)], [], z_m_c95) = some (.inl (some (.int 119)), z_m_c95) := q_isR_ok (w := some (.int 119)) (by decide +kernel)
set_option maxRecDepth 1000000 in
theorem z_q375 : q_run q_KL z_Pn 73 1299 201 (0, [(0, .ref 0), (1, .int 3), (2, .int 3)], [], z_m_c95) = some (.inl (some (.int 67)), z_m_c95) := q_isR_ok (w := some (.int 67)) (by decide +kernel)
set_option maxRecDepth 1000000 in
theorem z_q376 : q_run q_KL z_Pn 49 1299 309 (0, [(0, .ref 43), (1, .int 3), (2, .int 3)], [], z_m_c95) = some (.inl (some (.int 67)), z_m_c95) := q_isR_ok (w := some (.int 67)) (by decide +kernel)
set_option maxRecDepth 1000000 in
theorem z_q377 : q_run q_KL z_Pn 73 1299 201 (0, [(0, .ref 0), (1, .int 3), (2, .int 4)], [], z_m_c95) = some (.inl (some (.int 101)), z_m_c95) := q_isR_ok (w := some (.int 101)) (by decide +kernel)
set_option maxRecDepth 1000000 in
theorem z_q378 : q_run q_KL z_Pn 49 1299 309 (0, [(0, .ref 43), (1, .int 3), (2, .int 4)], [], z_m_c95) = some (.inl (some (.int 101)), z_m_c95) := q_isR_ok (w := some (.int 101)) (by decide +kernel)
set_option maxRecDepth 1000000 in
theorem z_q379 : q_run q_KL z_Pn 73 1299 201 (0, [(0, .ref 0), (1, .int 3), (2, .int 5)], [], z_m_c95) = some (.inl (some (.int 108)), z_m_c95) := q_isR_ok (w := some (.int 108)) (by decide +kernel)
set_option maxRecDepth 1000000 in
theorem z_q380 : q_run q_KL z_Pn 49 1299 309 (0, [(0, .ref 43), (1, .int 3), (2, .int 5)], [], z_m_c95) = some (.inl (some (.int 108)), z_m_c95) := q_isR_ok (w := some (.int 108)) (by decide +kernel)
set_option maxRecDepth 1000000 in
theorem z_q381 : q_run q_KL z_Pn 73 1299 201 (0, [(0, .ref 0), (1, .int 3), (2, .int 6)], [], z_m_c95) = some (.inl (some (.int 108)), z_m_c95) := q_isR_ok (w := some (.int 108)) (by decide +kernel)
set_option maxRecDepth 1000000 in
theorem z_q382 : q_run q_KL z_Pn 49 1299 309 (0, [(0, .ref 43), (1, .int 3), (2, .int 6)], [], z_m_c95) = some (.inl (some (.int 108)), z_m_c95) := q_isR_ok (w := some (.int 108)) (by decide +kernel)
set_option maxRecDepth 1000000 in
theorem z_q383 : q_run q_KL z_Pn 73 1299 201 (0, [(0, .ref 0), (1, .int 4), (2, .int 0)], [], z_m_c95) = some (.inl (some (.int 69)), z_m_c95) := q_isR_ok (w := some (.int 69)) (by decide +kernel)
set_option maxRecDepth 1000000 in
theorem z_q384 : q_run q_KL z_Pn 49 1299 309 (0, [(0, .ref 43), (1, .int 4), (2, .int 0)], [], z_m_c95) = some (.inl (some (.int 69)), z_m_c95) := q_isR_ok (w := some (.int 69)) (by decide +kernel)
set_option maxRecDepth 1000000 in
theorem z_q385 : q_run q_KL z_Pn 73 1299 201 (0, [(0, .ref 0), (1, .int 4), (2, .int 1)], [], z_m_c95) = some (.inl (some (.int 120)), z_m_c95) := q_isR_ok (w := some (.int 120)) (by decide +kernel)
set_option maxRecDepth 1000000 in
theorem z_q386 : q_run q_KL z_Pn 49 1299 309 (0, [(0, .ref 43), (1, .int 4), (2, .int 1)], [], z_m_c95) = some (.inl (some (.int 120)), z_m_c95) := q_isR_ok (w := some (.int 120)) (by decide +kernel)
set_option maxRecDepth 1000000 in
theorem z_q387 : q_run q_KL z_Pn 73 1299 201 (0, [(0, .ref 0), (1, .int 4), (2, .int 2)], [], z_m_c95) = some (.inl (some (.int 99)), z_m_c95) := q_isR_ok (w := some (.int 99)) (by decide +kernel)
set_option maxRecDepth 1000000 in
theorem z_q388 : q_run q_KL z_Pn 49 1299 309 (0, [(0, .ref 43), (1, .int 4), (2, .int 2)], [], z_m_c95) = some (.inl (some (.int 99)), z_m_c95) := q_isR_ok (w := some (.int 99)) (by decide +kernel)
set_option maxRecDepth 1000000 in
theorem z_q389 : q_run q_KL z_Pn 73 1299 201 (0, [(0, .ref 0), (1, .int 4), (2, .int 3)], [], z_m_c95) = some (.inl (some (.int 104)), z_m_c95) := q_isR_ok (w := some (.int 104)) (by decide +kernel)
set_option maxRecDepth 1000000 in
theorem z_q390 : q_run q_KL z_Pn 49 1299 309 (0, [(0, .ref 43), (1, .int 4), (2, .int 3)], [], z_m_c95) = some (.inl (some (.int 104)), z_m_c95) := q_isR_ok (w := some (.int 104)) (by decide +kernel)
set_option maxRecDepth 1000000 in
theorem z_q391 : q_run q_KL z_Pn 73 1299 201 (0, [(0, .ref 0), (1, .int 4), (2, .int 4)], [], z_m_c95) = some (.inl (some (.int 97)), z_m_c95) := q_isR_ok (w := some (.int 97)) (by decide +kernel)
set_option maxRecDepth 1000000 in
theorem z_q392 : q_run q_KL z_Pn 49 1299 309 (0, [(0, .ref 43), (1, .int 4), (2, .int 4)], [], z_m_c95) = some (.inl (some (.int 97)), z_m_c95) := q_isR_ok (w := some (.int 97)) (by decide +kernel)
set_option maxRecDepth 1000000 in
theorem z_q393 : q_run q_KL z_Pn 73 1299 201 (0, [(0, .ref 0), (1, .int 4), (2, .int 5)], [], z_m_c95) = some (.inl (some (.int 110)), z_m_c95) := q_isR_ok (w := some (.int 110)) (by decide +kernel)
set_option maxRecDepth 1000000 in
theorem z_q394 : q_run q_KL z_Pn 49 1299 309 (0, [(0, .ref 43), (1, .int 4), (2, .int 5)], [], z_m_c95) = some (.inl (some (.int 110)), z_m_c95) := q_isR_ok (w := some (.int 110)) (by decide +kernel)
set_option maxRecDepth 1000000 in
theorem z_q395 : q_run q_KL z_Pn 73 1299 201 (0, [(0, .ref 0), (1, .int 4), (2, .int 6)], [], z_m_c95) = some (.inl (some (.int 103)), z_m_c95) := q_isR_ok (w := some (.int 103)) (by decide +kernel)
set_option maxRecDepth 1000000 in
theorem z_q396 : q_run q_KL z_Pn 49 1299 309 (0, [(0, .ref 43), (1, .int 4), (2, .int 6)], [], z_m_c95) = some (.inl (some (.int 103)), z_m_c95) := q_isR_ok (w := some (.int 103)) (by decide +kernel)
set_option maxRecDepth 1000000 in
theorem z_q397 : q_run q_KL z_Pn 73 1299 201 (0, [(0, .ref 0), (1, .int 4), (2, .int 7)], [], z_m_c95) = some (.inl (some (.int 101)), z_m_c95) := q_isR_ok (w := some (.int 101)) (by decide +kernel)
set_option maxRecDepth 1000000 in
theorem z_q398 : q_run q_KL z_Pn 49 1299 309 (0, [(0, .ref 43), (1, .int 4), (2, .int 7)], [], z_m_c95) = some (.inl (some (.int 101)), z_m_c95) := q_isR_ok (w := some (.int 101)) (by decide +kernel)
set_option maxRecDepth 1000000 in
theorem z_q399 : q_run q_KL z_Pn 73 1299 201 (0, [(0, .ref 0), (1, .int 5), (2, .int 0)], [], z_m_c95) = some (.inl (some (.int 78)), z_m_c95) := q_isR_ok (w := some (.int 78)) (by decide +kernel)
set_option maxRecDepth 1000000 in
theorem z_q400 : q_run q_KL z_Pn 49 1299 309 (0, [(0, .ref 43), (1, .int 5), (2, .int 0)], [], z_m_c95) = some (.inl (some (.int 78)), z_m_c95) := q_isR_ok (w := some (.int 78)) (by decide +kernel)
set_option maxRecDepth 1000000 in
theorem z_q401 : q_run q_KL z_Pn 73 1299 201 (0, [(0, .ref 0), (1, .int 5), (2, .int 1)], [], z_m_c95) = some (.inl (some (.int 101)), z_m_c95) := q_isR_ok (w := some (.int 101)) (by decide +kernel)
set_option maxRecDepth 1000000 in
theorem z_q402 : q_run q_KL z_Pn 49 1299 309 (0, [(0, .ref 43), (1, .int 5), (2, .int 1)], [], z_m_c95) = some (.inl (some (.int 101)), z_m_c95) := q_isR_ok (w := some (.int 101)) (by decide +kernel)
set_option maxRecDepth 1000000 in
theorem z_q403 : q_run q_KL z_Pn 73 1299 201 (0, [(0, .ref 0), (1, .int 5), (2, .int 2)], [], z_m_c95) = some (.inl (some (.int 119)), z_m_c95) := q_isR_ok (w := some (.int 119)) (by decide +kernel)
set_option maxRecDepth 1000000 in
theorem z_q404 : q_run q_KL z_Pn 49 1299 309 (0, [(0, .ref 43), (1, .int 5), (2, .int 2)], [], z_m_c95) = some (.inl (some (.int 119)), z_m_c95) := q_isR_ok (w := some (.int 119)) (by decide +kernel)
set_option maxRecDepth 1000000 in
theorem z_q405 : q_run q_KL z_Pn 73 1299 201 (0, [(0, .ref 0), (1, .int 5), (2, .int 3)], [], z_m_c95) = some (.inl (some (.int 80)), z_m_c95) := q_isR_ok (w := some (.int 80)) (by decide +kernel)
set_option maxRecDepth 1000000 in
theorem z_q406 : q_run q_KL z_Pn 49 1299 309 (0, [(0, .ref 43), (1, .int 5), (2, .int 3)], [], z_m_c95) = some (.inl (some (.int 80)), z_m_c95) := q_isR_ok (w := some (.int 80)) (by decide +kernel)
set_option maxRecDepth 1000000 in
theorem z_q407 : q_run q_KL z_Pn 73 1299 201 (0, [(0, .ref 0), (1, .int 5), (2, .int 4)], [], z_m_c95) = some (.inl (some (.int 111)), z_m_c95) := q_isR_ok (w := some (.int 111)) (by decide +kernel)
set_option maxRecDepth 1000000 in
theorem z_q408 : q_run q_KL z_Pn 49 1299 309 (0, [(0, .ref 43), (1, .int 5), (2, .int 4)], [], z_m_c95) = some (.inl (some (.int 111)), z_m_c95) := q_isR_ok (w := some (.int 111)) (by decide +kernel)
set_option maxRecDepth 1000000 in
theorem z_q409 : q_run q_KL z_Pn 73 1299 201 (0, [(0, .ref 0), (1, .int 5), (2, .int 5)], [], z_m_c95) = some (.inl (some (.int 114)), z_m_c95) := q_isR_ok (w := some (.int 114)) (by decide +kernel)
set_option maxRecDepth 1000000 in
theorem z_q410 : q_run q_KL z_Pn 49 1299 309 (0, [(0, .ref 43), (1, .int 5), (2, .int 5)], [], z_m_c95) = some (.inl (some (.int 114)), z_m_c95) := q_isR_ok (w := some (.int 114)) (by decide +kernel)
set_option maxRecDepth 1000000 in
theorem z_q411 : q_run q_KL z_Pn 73 1299 201 (0, [(0, .ref 0), (1, .int 5), (2, .int 6)], [], z_m_c95) = some (.inl (some (.int 116)), z_m_c95) := q_isR_ok (w := some (.int 116)) (by decide +kernel)
set_option maxRecDepth 1000000 in
theorem z_q412 : q_run q_KL z_Pn 49 1299 309 (0, [(0, .ref 43), (1, .int 5), (2, .int 6)], [], z_m_c95) = some (.inl (some (.int 116)), z_m_c95) := q_isR_ok (w := some (.int 116)) (by decide +kernel)
set_option maxRecDepth 1000000 in
theorem z_q413 : q_run q_KL z_Pn 73 1299 201 (0, [(0, .ref 0), (1, .int 6), (2, .int 0)], [], z_m_c95) = some (.inl (some (.int 83)), z_m_c95) := q_isR_ok (w := some (.int 83)) (by decide +kernel)
set_option maxRecDepth 1000000 in
theorem z_q414 : q_run q_KL z_Pn 49 1299 309 (0, [(0, .ref 43), (1, .int 6), (2, .int 0)], [], z_m_c95) = some (.inl (some (.int 83)), z_m_c95) := q_isR_ok (w := some (.int 83)) (by decide +kernel)
set_option maxRecDepth 1000000 in
theorem z_q415 : q_run q_KL z_Pn 73 1299 201 (0, [(0, .ref 0), (1, .int 6), (2, .int 1)], [], z_m_c95) = some (.inl (some (.int 101)), z_m_c95) := q_isR_ok (w := some (.int 101)) (by decide +kernel)
set_option maxRecDepth 1000000 in
theorem z_q416 : q_run q_KL z_Pn 49 1299 309 (0, [(0, .ref 43), (1, .int 6), (2, .int 1)], [], z_m_c95) = some (.inl (some (.int 101)), z_m_c95) := q_isR_ok (w := some (.int 101)) (by decide +kernel)
set_option maxRecDepth 1000000 in
theorem z_q417 : q_run q_KL z_Pn 73 1299 201 (0, [(0, .ref 0), (1, .int 6), (2, .int 2)], [], z_m_c95) = some (.inl (some (.int 110)), z_m_c95) := q_isR_ok (w := some (.int 110)) (by decide +kernel)
set_option maxRecDepth 1000000 in
theorem z_q418 : q_run q_KL z_Pn 49 1299 309 (0, [(0, .ref 43), (1, .int 6), (2, .int 2)], [], z_m_c95) = some (.inl (some (.int 110)), z_m_c95) := q_isR_ok (w := some (.int 110)) (by decide +kernel)
set_option maxRecDepth 1000000 in
theorem z_q419 : q_run q_KL z_Pn 73 1299 201 (0, [(0, .ref 0), (1, .int 6), (2, .int 3)], [], z_m_c95) = some (.inl (some (.int 100)), z_m_c95) := q_isR_ok (w := some (.int 100)) (by decide +kernel)
set_option maxRecDepth 1000000 in
theorem z_q420 : q_run q_KL z_Pn 49 1299 309 (0, [(0, .ref 43), (1, .int 6), (2, .int 3)], [], z_m_c95) = some (.inl (some (.int 100)), z_m_c95) := q_isR_ok (w := some (.int 100)) (by decide +kernel)
