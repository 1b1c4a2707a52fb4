set_option maxRecDepth 1000000 in
theorem z_dec7 : (List.range 18).all (fun j => z_decB (219 + j)) = true := by decide +kernel
