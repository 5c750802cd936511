set_option maxRecDepth 100000 in
theorem chK2_a : chAll chK2 = true := by decide +kernel
