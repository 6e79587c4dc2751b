def iz_L0 : List (Nat × Nat × Nat × Nat) := [(204, 40000, 0, 255)]
theorem iz_m0 : sh_M iz_L0 = true := by decide +kernel
