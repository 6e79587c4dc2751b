theorem iz_k221_1 : sh_K 221 24000 24000 0 255 = true := by decide +kernel
