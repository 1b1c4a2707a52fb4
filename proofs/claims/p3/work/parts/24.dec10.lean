set_option maxRecDepth 1000000 in
theorem z_dec10 : (List.range 17).all (fun j => z_decB (282 + j)) = true := by decide +kernel
