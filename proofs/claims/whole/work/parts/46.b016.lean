theorem iz_k226_0 : sh_K 226 0 24000 0 255 = true := by decide +kernel
