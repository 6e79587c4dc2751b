theorem rs_RX13_975 : mx_res RX13 975 = some (2, 540, 1) := by decide +kernel
theorem rs_RX13_1078 : mx_res RX13 1078 = some (1, 579, 1) := by decide +kernel
theorem rs_RX13_1081 : mx_res RX13 1081 = some (1, 583, 1) := by decide +kernel
theorem rs_RX13_1084 : mx_res RX13 1084 = some (1, 581, 1) := by decide +kernel
theorem rs_RX13_1090 : mx_res RX13 1090 = some (1, 586, 1) := by decide +kernel
theorem rs_RX13_1096 : mx_res RX13 1096 = some (2, 584, 3) := by decide +kernel
theorem rs_RX13_1099 : mx_res RX13 1099 = some (1, 592, 1) := by decide +kernel
theorem rs_RX13_1102 : mx_res RX13 1102 = some (1, 590, 3) := by decide +kernel
theorem rs_RX13_1106 : mx_res RX13 1106 = some (1, 591, 2) := by decide +kernel
theorem rs_RX13_1109 : mx_res RX13 1109 = some (1, 594, 2) := by decide +kernel
theorem rs_RX13_1111 : mx_res RX13 1111 = some (1, 595, 2) := by decide +kernel
theorem rs_RX13_1114 : mx_res RX13 1114 = some (1, 585, 1) := by decide +kernel
theorem ft_13_143 : mx_fty 13 143 = some (.int, false, "ClassMillModel") := by decide +kernel
theorem mt_X13_step : mx_mt 582 = some (yX13_step, cX13_step, 7, none) := rfl
theorem dX13_step_0 : decode cX13_step 0 = .ok (.aload_n 0, 1) := by decide +kernel
theorem dX13_step_1 : decode cX13_step 1 = .ok (.getfield 300, 3) := by decide +kernel
theorem dX13_step_4 : decode cX13_step 4 = .ok (.aload_n 0, 1) := by decide +kernel
theorem dX13_step_5 : decode cX13_step 5 = .ok (.getfield 1058, 3) := by decide +kernel
theorem dX13_step_8 : decode cX13_step 8 = .ok (.iconst 1, 1) := by decide +kernel
theorem dX13_step_9 : decode cX13_step 9 = .ok (.isub, 1) := by decide +kernel
theorem dX13_step_10 : decode cX13_step 10 = .ok (.iaload, 1) := by decide +kernel
theorem dX13_step_11 : decode cX13_step 11 = .ok (.istore_n 1, 1) := by decide +kernel
theorem dX13_step_12 : decode cX13_step 12 = .ok (.aload_n 0, 1) := by decide +kernel
theorem dX13_step_13 : decode cX13_step 13 = .ok (.iload_n 1, 1) := by decide +kernel
theorem dX13_step_14 : decode cX13_step 14 = .ok (.invokevirtual 1078, 3) := by decide +kernel
theorem dX13_step_17 : decode cX13_step 17 = .ok (.istore_n 2, 1) := by decide +kernel
theorem dX13_step_18 : decode cX13_step 18 = .ok (.iload_n 2, 1) := by decide +kernel
theorem dX13_step_19 : decode cX13_step 19 = .ok (.invokestatic 975, 3) := by decide +kernel
theorem dX13_step_22 : decode cX13_step 22 = .ok (.istore_n 3, 1) := by decide +kernel
theorem dX13_step_23 : decode cX13_step 23 = .ok (.iload_n 3, 1) := by decide +kernel
theorem dX13_step_24 : decode cX13_step 24 = .ok (.iconst 1, 1) := by decide +kernel
theorem dX13_step_25 : decode cX13_step 25 = .ok (.if_icmp .le 13, 3) := by decide +kernel
theorem dX13_step_28 : decode cX13_step 28 = .ok (.aload_n 0, 1) := by decide +kernel
theorem dX13_step_29 : decode cX13_step 29 = .ok (.iload_n 1, 1) := by decide +kernel
theorem dX13_step_30 : decode cX13_step 30 = .ok (.iconst 1, 1) := by decide +kernel
theorem dX13_step_31 : decode cX13_step 31 = .ok (.iadd, 1) := by decide +kernel
theorem dX13_step_32 : decode cX13_step 32 = .ok (.invokevirtual 1078, 3) := by decide +kernel
theorem dX13_step_35 : decode cX13_step 35 = .ok (.goto 4, 3) := by decide +kernel
theorem dX13_step_38 : decode cX13_step 38 = .ok (.iconst 0, 1) := by decide +kernel
theorem dX13_step_39 : decode cX13_step 39 = .ok (.istore 4, 2) := by decide +kernel
theorem dX13_step_41 : decode cX13_step 41 = .ok (.iload_n 2, 1) := by decide +kernel
