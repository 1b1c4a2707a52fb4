set_option maxRecDepth 1000000 in
theorem z_dec1 : (List.range 38).all (fun j => z_decB (32 + j)) = true := by decide +kernel
