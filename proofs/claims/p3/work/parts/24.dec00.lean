set_option maxRecDepth 1000000 in
theorem z_dec0 : (List.range 32).all (fun j => z_decB (0 + j)) = true := by decide +kernel
