set_option maxRecDepth 1000000 in
theorem z_dec2 : (List.range 34).all (fun j => z_decB (70 + j)) = true := by decide +kernel
