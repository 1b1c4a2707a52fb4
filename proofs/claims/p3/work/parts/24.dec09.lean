set_option maxRecDepth 1000000 in
theorem z_dec9 : (List.range 21).all (fun j => z_decB (261 + j)) = true := by decide +kernel
