/-- THE LAW OUT OF ITS FUNCTION: what is left of whole is pure -/
theorem good_of {N : Nat} {xs : Nat → Int32} {nn : Nat} {h : mx_H} {mc ms : Nat} (hf : f_L_law (N, xs) nn [] = some (1, h, mc, ms)) (hmc : mc ≤ 600000) (hms : ms ≤ 7302250) : mx_good N xs := by
  obtain ⟨n, hn⟩ := f_L_law_ok (N, xs) (F := 2048) (L := 84000) (by decide) (by decide) nn [] hf
  exact ⟨n, h, mc, ms, hn, hmc, hms⟩
