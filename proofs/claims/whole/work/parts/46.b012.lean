theorem iz_k221_0 : sh_K 221 0 24000 0 255 = true := by decide +kernel
