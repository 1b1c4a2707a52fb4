set_option maxRecDepth 1000000 in
theorem z_dec4 : (List.range 33).all (fun j => z_decB (134 + j)) = true := by decide +kernel
