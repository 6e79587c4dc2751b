theorem iz_k212_1 : sh_K 212 30000 30000 1 900 = true := by decide +kernel
