theorem mt_X13_widthOf : mx_mt 540 = some (yX13_widthOf, cX13_widthOf, 1, (some .int)) := rfl
theorem dX13_widthOf_0 : decode cX13_widthOf 0 = .ok (.iload_n 0, 1) := by decide +kernel
theorem dX13_widthOf_1 : decode cX13_widthOf 1 = .ok (.bipush 8, 2) := by decide +kernel
theorem dX13_widthOf_3 : decode cX13_widthOf 3 = .ok (.if_icmp .gt 5, 3) := by decide +kernel
theorem dX13_widthOf_6 : decode cX13_widthOf 6 = .ok (.iconst 1, 1) := by decide +kernel
theorem dX13_widthOf_7 : decode cX13_widthOf 7 = .ok (.ireturn, 1) := by decide +kernel
theorem dX13_widthOf_8 : decode cX13_widthOf 8 = .ok (.iload_n 0, 1) := by decide +kernel
theorem dX13_widthOf_9 : decode cX13_widthOf 9 = .ok (.tableswitch 733 16 193 #[727, 733, 727, 733, 733, 727, 733, 733, 733, 727, 733, 733, 733, 733, 733, 733, 733, 733, 733, 733, 733, 733, 733, 733, 733, 733, 733, 733, 733, 733, 729, 733, 733, 733, 729, 733, 733, 733, 727, 733, 733, 733, 727, 733, 733, 733, 733, 733, 733, 733, 733, 733, 733, 733, 733, 733, 733, 733, 733, 733, 733, 733, 733, 729, 733, 733, 733, 729, 733, 733, 733, 729, 733, 729, 733, 733, 733, 733, 733, 733, 729, 733, 733, 733, 729, 733, 733, 733, 729, 733, 733, 733, 729, 733, 733, 733, 729, 733, 733, 733, 729, 733, 733, 733, 729, 733, 729, 733, 729, 733, 729, 733, 729, 733, 729, 733, 733, 733, 733, 733, 733, 733, 733, 733, 733, 733, 733, 733, 733, 733, 733, 733, 733, 733, 733, 733, 733, 731, 731, 733, 733, 733, 733, 731, 731, 731, 731, 731, 731, 731, 731, 731, 733, 733, 733, 733, 729, 733, 733, 733, 729, 729, 733, 733, 727, 727, 727, 733, 727, 733, 729, 727, 727, 727, 729, 729, 727, 727], 727) := by decide +kernel
theorem dX13_widthOf_736 : decode cX13_widthOf 736 = .ok (.iconst 2, 1) := by decide +kernel
theorem dX13_widthOf_737 : decode cX13_widthOf 737 = .ok (.ireturn, 1) := by decide +kernel
theorem dX13_widthOf_738 : decode cX13_widthOf 738 = .ok (.iconst 1, 1) := by decide +kernel
theorem dX13_widthOf_739 : decode cX13_widthOf 739 = .ok (.ireturn, 1) := by decide +kernel
theorem dX13_widthOf_740 : decode cX13_widthOf 740 = .ok (.iconst 3, 1) := by decide +kernel
theorem dX13_widthOf_741 : decode cX13_widthOf 741 = .ok (.ireturn, 1) := by decide +kernel
theorem dX13_widthOf_742 : decode cX13_widthOf 742 = .ok (.iconst 0, 1) := by decide +kernel
theorem dX13_widthOf_743 : decode cX13_widthOf 743 = .ok (.ireturn, 1) := by decide +kernel
