theorem iz_k212_0 : sh_K 212 0 30000 1 900 = true := by decide +kernel
