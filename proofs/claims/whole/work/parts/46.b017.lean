theorem iz_k226_1 : sh_K 226 24000 24000 0 255 = true := by decide +kernel
