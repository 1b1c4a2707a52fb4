set_option maxRecDepth 1000000 in
theorem z_dec11 : (List.range 14).all (fun j => z_decB (299 + j)) = true := by decide +kernel
