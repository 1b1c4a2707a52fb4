set_option maxRecDepth 1000000 in
theorem z_dec8 : (List.range 24).all (fun j => z_decB (237 + j)) = true := by decide +kernel
