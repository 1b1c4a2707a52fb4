set_option maxRecDepth 1000000 in
theorem z_dec6 : (List.range 27).all (fun j => z_decB (192 + j)) = true := by decide +kernel
