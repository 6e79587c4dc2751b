theorem iz_k223_1 : sh_K 223 24000 24000 0 255 = true := by decide +kernel
