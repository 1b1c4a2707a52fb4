set_option maxRecDepth 1000000 in
theorem z_dec5 : (List.range 25).all (fun j => z_decB (167 + j)) = true := by decide +kernel
