def iz_L2 : List (Nat × Nat × Nat × Nat) := [(206, 12000, 0, 255), (167, 9000, 0, 39), (168, 9000, 0, 3000), (169, 9000, 0, 3000), (213, 1000, 0, 1000000000)]
theorem iz_m2 : sh_M iz_L2 = true := by decide +kernel
