theorem rs_RX13_1028 : mx_res RX13 1028 = some (1, 562, 1) := by decide +kernel
theorem rs_RX13_1037 : mx_res RX13 1037 = some (1, 565, 1) := by decide +kernel
theorem mt_X13_calls : mx_mt 568 = some (yX13_calls, cX13_calls, 6, (some .boolean)) := rfl
theorem dX13_calls_0 : decode cX13_calls 0 = .ok (.sipush 6000, 3) := by decide +kernel
theorem dX13_calls_3 : decode cX13_calls 3 = .ok (.aload_n 0, 1) := by decide +kernel
theorem dX13_calls_4 : decode cX13_calls 4 = .ok (.getfield 932, 3) := by decide +kernel
theorem dX13_calls_7 : decode cX13_calls 7 = .ok (.imul, 1) := by decide +kernel
theorem dX13_calls_8 : decode cX13_calls 8 = .ok (.aload_n 0, 1) := by decide +kernel
theorem dX13_calls_9 : decode cX13_calls 9 = .ok (.getfield 215, 3) := by decide +kernel
theorem dX13_calls_12 : decode cX13_calls 12 = .ok (.sipush 256, 3) := by decide +kernel
theorem dX13_calls_15 : decode cX13_calls 15 = .ok (.aload_n 0, 1) := by decide +kernel
theorem dX13_calls_16 : decode cX13_calls 16 = .ok (.getfield 932, 3) := by decide +kernel
theorem dX13_calls_19 : decode cX13_calls 19 = .ok (.imul, 1) := by decide +kernel
theorem dX13_calls_20 : decode cX13_calls 20 = .ok (.aload_n 0, 1) := by decide +kernel
theorem dX13_calls_21 : decode cX13_calls 21 = .ok (.iload_n 1, 1) := by decide +kernel
theorem dX13_calls_22 : decode cX13_calls 22 = .ok (.iconst 2, 1) := by decide +kernel
theorem dX13_calls_23 : decode cX13_calls 23 = .ok (.invokevirtual 1022, 3) := by decide +kernel
theorem dX13_calls_26 : decode cX13_calls 26 = .ok (.iadd, 1) := by decide +kernel
theorem dX13_calls_27 : decode cX13_calls 27 = .ok (.iaload, 1) := by decide +kernel
theorem dX13_calls_28 : decode cX13_calls 28 = .ok (.iadd, 1) := by decide +kernel
theorem dX13_calls_29 : decode cX13_calls 29 = .ok (.iconst 3, 1) := by decide +kernel
theorem dX13_calls_30 : decode cX13_calls 30 = .ok (.iadd, 1) := by decide +kernel
theorem dX13_calls_31 : decode cX13_calls 31 = .ok (.istore_n 3, 1) := by decide +kernel
theorem dX13_calls_32 : decode cX13_calls 32 = .ok (.iconst 0, 1) := by decide +kernel
theorem dX13_calls_33 : decode cX13_calls 33 = .ok (.istore 4, 2) := by decide +kernel
theorem dX13_calls_35 : decode cX13_calls 35 = .ok (.aload_n 0, 1) := by decide +kernel
theorem dX13_calls_36 : decode cX13_calls 36 = .ok (.getfield 209, 3) := by decide +kernel
theorem dX13_calls_39 : decode cX13_calls 39 = .ok (.iload_n 3, 1) := by decide +kernel
theorem dX13_calls_40 : decode cX13_calls 40 = .ok (.iaload, 1) := by decide +kernel
theorem dX13_calls_41 : decode cX13_calls 41 = .ok (.bipush 41, 2) := by decide +kernel
theorem dX13_calls_43 : decode cX13_calls 43 = .ok (.if_icmp .eq 26, 3) := by decide +kernel
theorem dX13_calls_46 : decode cX13_calls 46 = .ok (.aload_n 0, 1) := by decide +kernel
theorem dX13_calls_47 : decode cX13_calls 47 = .ok (.getfield 276, 3) := by decide +kernel
theorem dX13_calls_50 : decode cX13_calls 50 = .ok (.iload 4, 2) := by decide +kernel
theorem dX13_calls_52 : decode cX13_calls 52 = .ok (.aload_n 0, 1) := by decide +kernel
theorem dX13_calls_53 : decode cX13_calls 53 = .ok (.iload_n 3, 1) := by decide +kernel
theorem dX13_calls_54 : decode cX13_calls 54 = .ok (.invokevirtual 885, 3) := by decide +kernel
theorem dX13_calls_57 : decode cX13_calls 57 = .ok (.iastore, 1) := by decide +kernel
theorem dX13_calls_58 : decode cX13_calls 58 = .ok (.iinc 4 1, 3) := by decide +kernel
theorem dX13_calls_61 : decode cX13_calls 61 = .ok (.aload_n 0, 1) := by decide +kernel
theorem dX13_calls_62 : decode cX13_calls 62 = .ok (.getfield 879, 3) := by decide +kernel
theorem dX13_calls_65 : decode cX13_calls 65 = .ok (.istore_n 3, 1) := by decide +kernel
theorem dX13_calls_66 : decode cX13_calls 66 = .ok (.goto (-31), 3) := by decide +kernel
theorem dX13_calls_69 : decode cX13_calls 69 = .ok (.iload 4, 2) := by decide +kernel
theorem dX13_calls_71 : decode cX13_calls 71 = .ok (.iconst 1, 1) := by decide +kernel
theorem dX13_calls_72 : decode cX13_calls 72 = .ok (.isub, 1) := by decide +kernel
theorem dX13_calls_73 : decode cX13_calls 73 = .ok (.istore 5, 2) := by decide +kernel
theorem dX13_calls_75 : decode cX13_calls 75 = .ok (.iload 5, 2) := by decide +kernel
theorem dX13_calls_77 : decode cX13_calls 77 = .ok (.ifCond .lt 25, 3) := by decide +kernel
theorem dX13_calls_80 : decode cX13_calls 80 = .ok (.aload_n 0, 1) := by decide +kernel
theorem dX13_calls_81 : decode cX13_calls 81 = .ok (.aload_n 0, 1) := by decide +kernel
theorem dX13_calls_82 : decode cX13_calls 82 = .ok (.getfield 276, 3) := by decide +kernel
theorem dX13_calls_85 : decode cX13_calls 85 = .ok (.iload 5, 2) := by decide +kernel
theorem dX13_calls_87 : decode cX13_calls 87 = .ok (.iaload, 1) := by decide +kernel
theorem dX13_calls_88 : decode cX13_calls 88 = .ok (.invokevirtual 1037, 3) := by decide +kernel
theorem dX13_calls_91 : decode cX13_calls 91 = .ok (.ifCond .ne 5, 3) := by decide +kernel
theorem dX13_calls_94 : decode cX13_calls 94 = .ok (.iconst 0, 1) := by decide +kernel
theorem dX13_calls_95 : decode cX13_calls 95 = .ok (.ireturn, 1) := by decide +kernel
theorem dX13_calls_96 : decode cX13_calls 96 = .ok (.iinc 5 (-1), 3) := by decide +kernel
theorem dX13_calls_99 : decode cX13_calls 99 = .ok (.goto (-24), 3) := by decide +kernel
theorem dX13_calls_102 : decode cX13_calls 102 = .ok (.iload_n 2, 1) := by decide +kernel
theorem dX13_calls_103 : decode cX13_calls 103 = .ok (.ifCond .ne 26, 3) := by decide +kernel
theorem dX13_calls_106 : decode cX13_calls 106 = .ok (.aload_n 0, 1) := by decide +kernel
theorem dX13_calls_107 : decode cX13_calls 107 = .ok (.aload_n 0, 1) := by decide +kernel
theorem dX13_calls_108 : decode cX13_calls 108 = .ok (.aload_n 0, 1) := by decide +kernel
theorem dX13_calls_109 : decode cX13_calls 109 = .ok (.getfield 932, 3) := by decide +kernel
theorem dX13_calls_112 : decode cX13_calls 112 = .ok (.aload_n 0, 1) := by decide +kernel
theorem dX13_calls_113 : decode cX13_calls 113 = .ok (.iload_n 1, 1) := by decide +kernel
theorem dX13_calls_114 : decode cX13_calls 114 = .ok (.iconst 0, 1) := by decide +kernel
theorem dX13_calls_115 : decode cX13_calls 115 = .ok (.invokevirtual 1022, 3) := by decide +kernel
theorem dX13_calls_118 : decode cX13_calls 118 = .ok (.invokevirtual 952, 3) := by decide +kernel
theorem dX13_calls_121 : decode cX13_calls 121 = .ok (.invokevirtual 1037, 3) := by decide +kernel
theorem dX13_calls_124 : decode cX13_calls 124 = .ok (.ifCond .ne 5, 3) := by decide +kernel
theorem dX13_calls_127 : decode cX13_calls 127 = .ok (.iconst 0, 1) := by decide +kernel
theorem dX13_calls_128 : decode cX13_calls 128 = .ok (.ireturn, 1) := by decide +kernel
theorem dX13_calls_129 : decode cX13_calls 129 = .ok (.aload_n 0, 1) := by decide +kernel
theorem dX13_calls_130 : decode cX13_calls 130 = .ok (.iload_n 3, 1) := by decide +kernel
theorem dX13_calls_131 : decode cX13_calls 131 = .ok (.iconst 1, 1) := by decide +kernel
theorem dX13_calls_132 : decode cX13_calls 132 = .ok (.iadd, 1) := by decide +kernel
theorem dX13_calls_133 : decode cX13_calls 133 = .ok (.invokevirtual 885, 3) := by decide +kernel
theorem dX13_calls_136 : decode cX13_calls 136 = .ok (.istore 5, 2) := by decide +kernel
theorem dX13_calls_138 : decode cX13_calls 138 = .ok (.iload 5, 2) := by decide +kernel
theorem dX13_calls_140 : decode cX13_calls 140 = .ok (.ifCond .eq 12, 3) := by decide +kernel
theorem dX13_calls_143 : decode cX13_calls 143 = .ok (.aload_n 0, 1) := by decide +kernel
theorem dX13_calls_144 : decode cX13_calls 144 = .ok (.iload 5, 2) := by decide +kernel
theorem dX13_calls_146 : decode cX13_calls 146 = .ok (.invokevirtual 1028, 3) := by decide +kernel
theorem dX13_calls_149 : decode cX13_calls 149 = .ok (.ifCond .eq 7, 3) := by decide +kernel
theorem dX13_calls_152 : decode cX13_calls 152 = .ok (.iconst 1, 1) := by decide +kernel
theorem dX13_calls_153 : decode cX13_calls 153 = .ok (.goto 4, 3) := by decide +kernel
theorem dX13_calls_156 : decode cX13_calls 156 = .ok (.iconst 0, 1) := by decide +kernel
theorem dX13_calls_157 : decode cX13_calls 157 = .ok (.ireturn, 1) := by decide +kernel
theorem mt_X13_pullInts : mx_mt 564 = some (yX13_pullInts, cX13_pullInts, 3, (some .boolean)) := rfl
theorem dX13_pullInts_0 : decode cX13_pullInts 0 = .ok (.iconst 0, 1) := by decide +kernel
theorem dX13_pullInts_1 : decode cX13_pullInts 1 = .ok (.istore_n 2, 1) := by decide +kernel
theorem dX13_pullInts_2 : decode cX13_pullInts 2 = .ok (.iload_n 2, 1) := by decide +kernel
theorem dX13_pullInts_3 : decode cX13_pullInts 3 = .ok (.iload_n 1, 1) := by decide +kernel
theorem dX13_pullInts_4 : decode cX13_pullInts 4 = .ok (.if_icmp .ge 19, 3) := by decide +kernel
theorem dX13_pullInts_7 : decode cX13_pullInts 7 = .ok (.aload_n 0, 1) := by decide +kernel
theorem dX13_pullInts_8 : decode cX13_pullInts 8 = .ok (.invokevirtual 1025, 3) := by decide +kernel
theorem dX13_pullInts_11 : decode cX13_pullInts 11 = .ok (.iconst 1, 1) := by decide +kernel
theorem dX13_pullInts_12 : decode cX13_pullInts 12 = .ok (.if_icmp .eq 5, 3) := by decide +kernel
theorem dX13_pullInts_15 : decode cX13_pullInts 15 = .ok (.iconst 0, 1) := by decide +kernel
theorem dX13_pullInts_16 : decode cX13_pullInts 16 = .ok (.ireturn, 1) := by decide +kernel
theorem dX13_pullInts_17 : decode cX13_pullInts 17 = .ok (.iinc 2 1, 3) := by decide +kernel
theorem dX13_pullInts_20 : decode cX13_pullInts 20 = .ok (.goto (-18), 3) := by decide +kernel
theorem dX13_pullInts_23 : decode cX13_pullInts 23 = .ok (.iconst 1, 1) := by decide +kernel
theorem dX13_pullInts_24 : decode cX13_pullInts 24 = .ok (.ireturn, 1) := by decide +kernel
theorem mt_X13_pullThing : mx_mt 566 = some (yX13_pullThing, cX13_pullThing, 1, (some .boolean)) := rfl
theorem dX13_pullThing_0 : decode cX13_pullThing 0 = .ok (.aload_n 0, 1) := by decide +kernel
theorem dX13_pullThing_1 : decode cX13_pullThing 1 = .ok (.invokevirtual 1025, 3) := by decide +kernel
theorem dX13_pullThing_4 : decode cX13_pullThing 4 = .ok (.iconst 2, 1) := by decide +kernel
theorem dX13_pullThing_5 : decode cX13_pullThing 5 = .ok (.if_icmp .lt 7, 3) := by decide +kernel
theorem dX13_pullThing_8 : decode cX13_pullThing 8 = .ok (.iconst 1, 1) := by decide +kernel
theorem dX13_pullThing_9 : decode cX13_pullThing 9 = .ok (.goto 4, 3) := by decide +kernel
theorem dX13_pullThing_12 : decode cX13_pullThing 12 = .ok (.iconst 0, 1) := by decide +kernel
theorem dX13_pullThing_13 : decode cX13_pullThing 13 = .ok (.ireturn, 1) := by decide +kernel
