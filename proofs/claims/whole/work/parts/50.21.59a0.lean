theorem rs_RX13_998 : mx_res RX13 998 = some (0, 13, 136) := by decide +kernel
theorem rs_RX13_1031 : mx_res RX13 1031 = some (1, 564, 1) := by decide +kernel
theorem rs_RX13_1034 : mx_res RX13 1034 = some (1, 566, 0) := by decide +kernel
theorem rs_RX13_1040 : mx_res RX13 1040 = some (1, 568, 2) := by decide +kernel
theorem mt_X13_wanted : mx_mt 567 = some (yX13_wanted, cX13_wanted, 5, (some .boolean)) := rfl
theorem dX13_wanted_0 : decode cX13_wanted 0 = .ok (.aload_n 0, 1) := by decide +kernel
theorem dX13_wanted_1 : decode cX13_wanted 1 = .ok (.iload_n 1, 1) := by decide +kernel
theorem dX13_wanted_2 : decode cX13_wanted 2 = .ok (.invokevirtual 938, 3) := by decide +kernel
theorem dX13_wanted_5 : decode cX13_wanted 5 = .ok (.istore_n 2, 1) := by decide +kernel
theorem dX13_wanted_6 : decode cX13_wanted 6 = .ok (.iload_n 2, 1) := by decide +kernel
theorem dX13_wanted_7 : decode cX13_wanted 7 = .ok (.invokestatic 975, 3) := by decide +kernel
theorem dX13_wanted_10 : decode cX13_wanted 10 = .ok (.iconst 1, 1) := by decide +kernel
theorem dX13_wanted_11 : decode cX13_wanted 11 = .ok (.if_icmp .le 13, 3) := by decide +kernel
theorem dX13_wanted_14 : decode cX13_wanted 14 = .ok (.aload_n 0, 1) := by decide +kernel
theorem dX13_wanted_15 : decode cX13_wanted 15 = .ok (.iload_n 1, 1) := by decide +kernel
theorem dX13_wanted_16 : decode cX13_wanted 16 = .ok (.iconst 1, 1) := by decide +kernel
theorem dX13_wanted_17 : decode cX13_wanted 17 = .ok (.iadd, 1) := by decide +kernel
theorem dX13_wanted_18 : decode cX13_wanted 18 = .ok (.invokevirtual 938, 3) := by decide +kernel
theorem dX13_wanted_21 : decode cX13_wanted 21 = .ok (.goto 4, 3) := by decide +kernel
theorem dX13_wanted_24 : decode cX13_wanted 24 = .ok (.iconst 0, 1) := by decide +kernel
theorem dX13_wanted_25 : decode cX13_wanted 25 = .ok (.istore_n 3, 1) := by decide +kernel
theorem dX13_wanted_26 : decode cX13_wanted 26 = .ok (.iload_n 2, 1) := by decide +kernel
