theorem iz_k223_0 : sh_K 223 0 24000 0 255 = true := by decide +kernel
