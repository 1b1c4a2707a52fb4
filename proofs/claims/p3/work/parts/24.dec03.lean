set_option maxRecDepth 1000000 in
theorem z_dec3 : (List.range 30).all (fun j => z_decB (104 + j)) = true := by decide +kernel
