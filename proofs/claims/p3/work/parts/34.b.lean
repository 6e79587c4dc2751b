theorem in_b0 : sh_K 6 0 1600 128 127 = true := by decide +kernel
theorem in_b1 : sh_K 6 1600 1600 128 127 = true := by decide +kernel
theorem in_b2 : sh_K 6 3200 1600 128 127 = true := by decide +kernel
theorem in_b3 : sh_K 6 4800 1600 128 127 = true := by decide +kernel
def in_L : List (Nat × Nat × Nat × Nat) := [(1, 6000, 128, 127), (14, 256, 0, 1), (25, 96, 0, 1), (31, 128, 128, 127), (35, 1500, 128, 127), (48, 6000, 128, 127), (59, 256, 0, 1), (177, 9000, 0, 1), (185, 800, 0, 1), (193, 1500, 0, 1), (198, 3000, 0, 1), (242, 1501, 0, 1)]
theorem in_m : sh_M in_L = true := by decide +kernel
