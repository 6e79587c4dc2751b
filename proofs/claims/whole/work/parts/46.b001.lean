def iz_L1 : List (Nat × Nat × Nat × Nat) := [(225, 40000, 0, 255)]
theorem iz_m1 : sh_M iz_L1 = true := by decide +kernel
