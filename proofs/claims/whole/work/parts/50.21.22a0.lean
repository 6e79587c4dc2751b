theorem rs_RX7_135 : mx_res RX7 135 = some (1, 208, 2) := by decide +kernel
theorem rs_RX7_138 : mx_res RX7 138 = some (1, 131, 1) := by decide +kernel
theorem rs_RX7_141 : mx_res RX7 141 = some (0, 3, 12) := by decide +kernel
theorem rs_RX7_144 : mx_res RX7 144 = some (1, 126, 2) := by decide +kernel
theorem mt_X7_methodOf : mx_mt 211 = some (yX7_methodOf, cX7_methodOf, 8, (some .int)) := rfl
theorem dX7_methodOf_0 : decode cX7_methodOf 0 = .ok (.iload_n 1, 1) := by decide +kernel
theorem dX7_methodOf_1 : decode cX7_methodOf 1 = .ok (.istore 4, 2) := by decide +kernel
theorem dX7_methodOf_3 : decode cX7_methodOf 3 = .ok (.iconst 0, 1) := by decide +kernel
theorem dX7_methodOf_4 : decode cX7_methodOf 4 = .ok (.istore 5, 2) := by decide +kernel
theorem dX7_methodOf_6 : decode cX7_methodOf 6 = .ok (.iload 5, 2) := by decide +kernel
theorem dX7_methodOf_8 : decode cX7_methodOf 8 = .ok (.bipush 16, 2) := by decide +kernel
theorem dX7_methodOf_10 : decode cX7_methodOf 10 = .ok (.if_icmp .ge 81, 3) := by decide +kernel
theorem dX7_methodOf_13 : decode cX7_methodOf 13 = .ok (.aload_n 0, 1) := by decide +kernel
theorem dX7_methodOf_14 : decode cX7_methodOf 14 = .ok (.iload 4, 2) := by decide +kernel
theorem dX7_methodOf_16 : decode cX7_methodOf 16 = .ok (.invokevirtual 90, 3) := by decide +kernel
theorem dX7_methodOf_19 : decode cX7_methodOf 19 = .ok (.astore 6, 2) := by decide +kernel
theorem dX7_methodOf_21 : decode cX7_methodOf 21 = .ok (.aload 6, 2) := by decide +kernel
theorem dX7_methodOf_23 : decode cX7_methodOf 23 = .ok (.ifnonnull 5, 3) := by decide +kernel
theorem dX7_methodOf_26 : decode cX7_methodOf 26 = .ok (.iconst (-1), 1) := by decide +kernel
theorem dX7_methodOf_27 : decode cX7_methodOf 27 = .ok (.ireturn, 1) := by decide +kernel
theorem dX7_methodOf_28 : decode cX7_methodOf 28 = .ok (.iconst 0, 1) := by decide +kernel
theorem dX7_methodOf_29 : decode cX7_methodOf 29 = .ok (.istore 7, 2) := by decide +kernel
theorem dX7_methodOf_31 : decode cX7_methodOf 31 = .ok (.iload 7, 2) := by decide +kernel
theorem dX7_methodOf_33 : decode cX7_methodOf 33 = .ok (.aload 6, 2) := by decide +kernel
theorem dX7_methodOf_35 : decode cX7_methodOf 35 = .ok (.getfield 141, 3) := by decide +kernel
theorem dX7_methodOf_38 : decode cX7_methodOf 38 = .ok (.if_icmp .ge 36, 3) := by decide +kernel
theorem dX7_methodOf_41 : decode cX7_methodOf 41 = .ok (.aload 6, 2) := by decide +kernel
theorem dX7_methodOf_43 : decode cX7_methodOf 43 = .ok (.aload 6, 2) := by decide +kernel
theorem dX7_methodOf_45 : decode cX7_methodOf 45 = .ok (.iload 7, 2) := by decide +kernel
theorem dX7_methodOf_47 : decode cX7_methodOf 47 = .ok (.iconst 1, 1) := by decide +kernel
theorem dX7_methodOf_48 : decode cX7_methodOf 48 = .ok (.invokevirtual 144, 3) := by decide +kernel
theorem dX7_methodOf_51 : decode cX7_methodOf 51 = .ok (.aload_n 2, 1) := by decide +kernel
theorem dX7_methodOf_52 : decode cX7_methodOf 52 = .ok (.iload_n 3, 1) := by decide +kernel
theorem dX7_methodOf_53 : decode cX7_methodOf 53 = .ok (.invokevirtual 109, 3) := by decide +kernel
theorem dX7_methodOf_56 : decode cX7_methodOf 56 = .ok (.ifCond .eq 12, 3) := by decide +kernel
theorem dX7_methodOf_59 : decode cX7_methodOf 59 = .ok (.aload_n 0, 1) := by decide +kernel
theorem dX7_methodOf_60 : decode cX7_methodOf 60 = .ok (.iload 4, 2) := by decide +kernel
theorem dX7_methodOf_62 : decode cX7_methodOf 62 = .ok (.iload 7, 2) := by decide +kernel
theorem dX7_methodOf_64 : decode cX7_methodOf 64 = .ok (.invokevirtual 135, 3) := by decide +kernel
theorem dX7_methodOf_67 : decode cX7_methodOf 67 = .ok (.ireturn, 1) := by decide +kernel
theorem dX7_methodOf_68 : decode cX7_methodOf 68 = .ok (.iinc 7 1, 3) := by decide +kernel
theorem dX7_methodOf_71 : decode cX7_methodOf 71 = .ok (.goto (-40), 3) := by decide +kernel
theorem dX7_methodOf_74 : decode cX7_methodOf 74 = .ok (.aload_n 0, 1) := by decide +kernel
theorem dX7_methodOf_75 : decode cX7_methodOf 75 = .ok (.getfield 16, 3) := by decide +kernel
theorem dX7_methodOf_78 : decode cX7_methodOf 78 = .ok (.iload 4, 2) := by decide +kernel
theorem dX7_methodOf_80 : decode cX7_methodOf 80 = .ok (.invokevirtual 138, 3) := by decide +kernel
theorem dX7_methodOf_83 : decode cX7_methodOf 83 = .ok (.istore 4, 2) := by decide +kernel
theorem dX7_methodOf_85 : decode cX7_methodOf 85 = .ok (.iinc 5 1, 3) := by decide +kernel
theorem dX7_methodOf_88 : decode cX7_methodOf 88 = .ok (.goto (-82), 3) := by decide +kernel
theorem dX7_methodOf_91 : decode cX7_methodOf 91 = .ok (.iconst (-1), 1) := by decide +kernel
theorem dX7_methodOf_92 : decode cX7_methodOf 92 = .ok (.ireturn, 1) := by decide +kernel
theorem rs_RX11_75 : mx_res RX11 75 = some (1, 131, 1) := by decide +kernel
theorem rs_RX11_153 : mx_res RX11 153 = some (1, 110, 3) := by decide +kernel
theorem rs_RX11_157 : mx_res RX11 157 = some (1, 211, 3) := by decide +kernel
theorem rs_RX11_161 : mx_res RX11 161 = some (1, 209, 1) := by decide +kernel
theorem mt_X11_hasOtherAbove : mx_mt 314 = some (yX11_hasOtherAbove, cX11_hasOtherAbove, 7, (some .boolean)) := rfl
theorem dX11_hasOtherAbove_0 : decode cX11_hasOtherAbove 0 = .ok (.iconst 0, 1) := by decide +kernel
theorem dX11_hasOtherAbove_1 : decode cX11_hasOtherAbove 1 = .ok (.istore_n 2, 1) := by decide +kernel
theorem dX11_hasOtherAbove_2 : decode cX11_hasOtherAbove 2 = .ok (.iconst 0, 1) := by decide +kernel
theorem dX11_hasOtherAbove_3 : decode cX11_hasOtherAbove 3 = .ok (.istore_n 3, 1) := by decide +kernel
theorem dX11_hasOtherAbove_4 : decode cX11_hasOtherAbove 4 = .ok (.iload_n 3, 1) := by decide +kernel
theorem dX11_hasOtherAbove_5 : decode cX11_hasOtherAbove 5 = .ok (.aload_n 0, 1) := by decide +kernel
theorem dX11_hasOtherAbove_6 : decode cX11_hasOtherAbove 6 = .ok (.getfield 62, 3) := by decide +kernel
theorem dX11_hasOtherAbove_9 : decode cX11_hasOtherAbove 9 = .ok (.getfield 100, 3) := by decide +kernel
theorem dX11_hasOtherAbove_12 : decode cX11_hasOtherAbove 12 = .ok (.if_icmp .ge 124, 3) := by decide +kernel
theorem dX11_hasOtherAbove_15 : decode cX11_hasOtherAbove 15 = .ok (.iload_n 2, 1) := by decide +kernel
theorem dX11_hasOtherAbove_16 : decode cX11_hasOtherAbove 16 = .ok (.ifCond .ne 120, 3) := by decide +kernel
theorem dX11_hasOtherAbove_19 : decode cX11_hasOtherAbove 19 = .ok (.aload_n 0, 1) := by decide +kernel
theorem dX11_hasOtherAbove_20 : decode cX11_hasOtherAbove 20 = .ok (.getfield 50, 3) := by decide +kernel
theorem dX11_hasOtherAbove_23 : decode cX11_hasOtherAbove 23 = .ok (.aload_n 0, 1) := by decide +kernel
theorem dX11_hasOtherAbove_24 : decode cX11_hasOtherAbove 24 = .ok (.getfield 60, 3) := by decide +kernel
theorem dX11_hasOtherAbove_27 : decode cX11_hasOtherAbove 27 = .ok (.iload_n 1, 1) := by decide +kernel
theorem dX11_hasOtherAbove_28 : decode cX11_hasOtherAbove 28 = .ok (.invokevirtual 75, 3) := by decide +kernel
theorem dX11_hasOtherAbove_31 : decode cX11_hasOtherAbove 31 = .ok (.aload_n 0, 1) := by decide +kernel
theorem dX11_hasOtherAbove_32 : decode cX11_hasOtherAbove 32 = .ok (.getfield 62, 3) := by decide +kernel
theorem dX11_hasOtherAbove_35 : decode cX11_hasOtherAbove 35 = .ok (.aload_n 0, 1) := by decide +kernel
theorem dX11_hasOtherAbove_36 : decode cX11_hasOtherAbove 36 = .ok (.getfield 62, 3) := by decide +kernel
theorem dX11_hasOtherAbove_39 : decode cX11_hasOtherAbove 39 = .ok (.iload_n 3, 1) := by decide +kernel
theorem dX11_hasOtherAbove_40 : decode cX11_hasOtherAbove 40 = .ok (.iconst 1, 1) := by decide +kernel
theorem dX11_hasOtherAbove_41 : decode cX11_hasOtherAbove 41 = .ok (.invokevirtual 146, 3) := by decide +kernel
theorem dX11_hasOtherAbove_44 : decode cX11_hasOtherAbove 44 = .ok (.invokevirtual 157, 3) := by decide +kernel
theorem dX11_hasOtherAbove_47 : decode cX11_hasOtherAbove 47 = .ok (.istore 4, 2) := by decide +kernel
theorem dX11_hasOtherAbove_49 : decode cX11_hasOtherAbove 49 = .ok (.aload_n 0, 1) := by decide +kernel
theorem dX11_hasOtherAbove_50 : decode cX11_hasOtherAbove 50 = .ok (.getfield 50, 3) := by decide +kernel
theorem dX11_hasOtherAbove_53 : decode cX11_hasOtherAbove 53 = .ok (.iload 4, 2) := by decide +kernel
theorem dX11_hasOtherAbove_55 : decode cX11_hasOtherAbove 55 = .ok (.invokevirtual 161, 3) := by decide +kernel
theorem dX11_hasOtherAbove_58 : decode cX11_hasOtherAbove 58 = .ok (.astore 5, 2) := by decide +kernel
theorem dX11_hasOtherAbove_60 : decode cX11_hasOtherAbove 60 = .ok (.aload 5, 2) := by decide +kernel
theorem dX11_hasOtherAbove_62 : decode cX11_hasOtherAbove 62 = .ok (.ifnull 68, 3) := by decide +kernel
theorem dX11_hasOtherAbove_65 : decode cX11_hasOtherAbove 65 = .ok (.iload 4, 2) := by decide +kernel
theorem dX11_hasOtherAbove_67 : decode cX11_hasOtherAbove 67 = .ok (.bipush 12, 2) := by decide +kernel
theorem dX11_hasOtherAbove_69 : decode cX11_hasOtherAbove 69 = .ok (.irem, 1) := by decide +kernel
theorem dX11_hasOtherAbove_70 : decode cX11_hasOtherAbove 70 = .ok (.istore 6, 2) := by decide +kernel
theorem dX11_hasOtherAbove_72 : decode cX11_hasOtherAbove 72 = .ok (.aload_n 0, 1) := by decide +kernel
theorem dX11_hasOtherAbove_73 : decode cX11_hasOtherAbove 73 = .ok (.getfield 62, 3) := by decide +kernel
theorem dX11_hasOtherAbove_76 : decode cX11_hasOtherAbove 76 = .ok (.iload_n 3, 1) := by decide +kernel
theorem dX11_hasOtherAbove_77 : decode cX11_hasOtherAbove 77 = .ok (.iconst 0, 1) := by decide +kernel
theorem dX11_hasOtherAbove_78 : decode cX11_hasOtherAbove 78 = .ok (.invokevirtual 146, 3) := by decide +kernel
theorem dX11_hasOtherAbove_81 : decode cX11_hasOtherAbove 81 = .ok (.ifCond .ne 43, 3) := by decide +kernel
theorem dX11_hasOtherAbove_84 : decode cX11_hasOtherAbove 84 = .ok (.aload 5, 2) := by decide +kernel
theorem dX11_hasOtherAbove_86 : decode cX11_hasOtherAbove 86 = .ok (.iload 6, 2) := by decide +kernel
theorem dX11_hasOtherAbove_88 : decode cX11_hasOtherAbove 88 = .ok (.iconst 0, 1) := by decide +kernel
theorem dX11_hasOtherAbove_89 : decode cX11_hasOtherAbove 89 = .ok (.invokevirtual 146, 3) := by decide +kernel
theorem dX11_hasOtherAbove_92 : decode cX11_hasOtherAbove 92 = .ok (.ifCond .ne 32, 3) := by decide +kernel
theorem dX11_hasOtherAbove_95 : decode cX11_hasOtherAbove 95 = .ok (.aload_n 0, 1) := by decide +kernel
theorem dX11_hasOtherAbove_96 : decode cX11_hasOtherAbove 96 = .ok (.getfield 62, 3) := by decide +kernel
theorem dX11_hasOtherAbove_99 : decode cX11_hasOtherAbove 99 = .ok (.aload_n 0, 1) := by decide +kernel
theorem dX11_hasOtherAbove_100 : decode cX11_hasOtherAbove 100 = .ok (.getfield 62, 3) := by decide +kernel
theorem dX11_hasOtherAbove_103 : decode cX11_hasOtherAbove 103 = .ok (.iload_n 3, 1) := by decide +kernel
theorem dX11_hasOtherAbove_104 : decode cX11_hasOtherAbove 104 = .ok (.iconst 2, 1) := by decide +kernel
theorem dX11_hasOtherAbove_105 : decode cX11_hasOtherAbove 105 = .ok (.invokevirtual 146, 3) := by decide +kernel
theorem dX11_hasOtherAbove_108 : decode cX11_hasOtherAbove 108 = .ok (.aload 5, 2) := by decide +kernel
theorem dX11_hasOtherAbove_110 : decode cX11_hasOtherAbove 110 = .ok (.aload 5, 2) := by decide +kernel
theorem dX11_hasOtherAbove_112 : decode cX11_hasOtherAbove 112 = .ok (.iload 6, 2) := by decide +kernel
theorem dX11_hasOtherAbove_114 : decode cX11_hasOtherAbove 114 = .ok (.iconst 2, 1) := by decide +kernel
theorem dX11_hasOtherAbove_115 : decode cX11_hasOtherAbove 115 = .ok (.invokevirtual 146, 3) := by decide +kernel
theorem dX11_hasOtherAbove_118 : decode cX11_hasOtherAbove 118 = .ok (.invokevirtual 153, 3) := by decide +kernel
theorem dX11_hasOtherAbove_121 : decode cX11_hasOtherAbove 121 = .ok (.ifCond .ne 7, 3) := by decide +kernel
theorem dX11_hasOtherAbove_124 : decode cX11_hasOtherAbove 124 = .ok (.iconst 1, 1) := by decide +kernel
theorem dX11_hasOtherAbove_125 : decode cX11_hasOtherAbove 125 = .ok (.goto 4, 3) := by decide +kernel
theorem dX11_hasOtherAbove_128 : decode cX11_hasOtherAbove 128 = .ok (.iconst 0, 1) := by decide +kernel
theorem dX11_hasOtherAbove_129 : decode cX11_hasOtherAbove 129 = .ok (.istore_n 2, 1) := by decide +kernel
theorem dX11_hasOtherAbove_130 : decode cX11_hasOtherAbove 130 = .ok (.iinc 3 1, 3) := by decide +kernel
theorem dX11_hasOtherAbove_133 : decode cX11_hasOtherAbove 133 = .ok (.goto (-129), 3) := by decide +kernel
theorem dX11_hasOtherAbove_136 : decode cX11_hasOtherAbove 136 = .ok (.iload_n 2, 1) := by decide +kernel
theorem dX11_hasOtherAbove_137 : decode cX11_hasOtherAbove 137 = .ok (.ireturn, 1) := by decide +kernel
theorem mt_X3_fieldName : mx_mt 127 = some (yX3_fieldName, cX3_fieldName, 2, (some .int)) := rfl
theorem dX3_fieldName_0 : decode cX3_fieldName 0 = .ok (.iload_n 1, 1) := by decide +kernel
theorem dX3_fieldName_1 : decode cX3_fieldName 1 = .ok (.ifCond .lt 22, 3) := by decide +kernel
theorem dX3_fieldName_4 : decode cX3_fieldName 4 = .ok (.iload_n 1, 1) := by decide +kernel
theorem dX3_fieldName_5 : decode cX3_fieldName 5 = .ok (.aload_n 0, 1) := by decide +kernel
theorem dX3_fieldName_6 : decode cX3_fieldName 6 = .ok (.getfield 49, 3) := by decide +kernel
theorem dX3_fieldName_9 : decode cX3_fieldName 9 = .ok (.if_icmp .ge 14, 3) := by decide +kernel
theorem dX3_fieldName_12 : decode cX3_fieldName 12 = .ok (.aload_n 0, 1) := by decide +kernel
theorem dX3_fieldName_13 : decode cX3_fieldName 13 = .ok (.getfield 27, 3) := by decide +kernel
theorem dX3_fieldName_16 : decode cX3_fieldName 16 = .ok (.iload_n 1, 1) := by decide +kernel
theorem dX3_fieldName_17 : decode cX3_fieldName 17 = .ok (.iconst 2, 1) := by decide +kernel
theorem dX3_fieldName_18 : decode cX3_fieldName 18 = .ok (.imul, 1) := by decide +kernel
theorem dX3_fieldName_19 : decode cX3_fieldName 19 = .ok (.iaload, 1) := by decide +kernel
theorem dX3_fieldName_20 : decode cX3_fieldName 20 = .ok (.goto 4, 3) := by decide +kernel
theorem dX3_fieldName_23 : decode cX3_fieldName 23 = .ok (.iconst 0, 1) := by decide +kernel
theorem dX3_fieldName_24 : decode cX3_fieldName 24 = .ok (.ireturn, 1) := by decide +kernel
theorem rs_RX11_150 : mx_res RX11 150 = some (1, 127, 1) := by decide +kernel
theorem mt_X11_hasTwins : mx_mt 313 = some (yX11_hasTwins, cX11_hasTwins, 4, (some .boolean)) := rfl
theorem dX11_hasTwins_0 : decode cX11_hasTwins 0 = .ok (.iconst 0, 1) := by decide +kernel
theorem dX11_hasTwins_1 : decode cX11_hasTwins 1 = .ok (.istore_n 1, 1) := by decide +kernel
theorem dX11_hasTwins_2 : decode cX11_hasTwins 2 = .ok (.iconst 0, 1) := by decide +kernel
theorem dX11_hasTwins_3 : decode cX11_hasTwins 3 = .ok (.istore_n 2, 1) := by decide +kernel
theorem dX11_hasTwins_4 : decode cX11_hasTwins 4 = .ok (.iload_n 2, 1) := by decide +kernel
theorem dX11_hasTwins_5 : decode cX11_hasTwins 5 = .ok (.aload_n 0, 1) := by decide +kernel
theorem dX11_hasTwins_6 : decode cX11_hasTwins 6 = .ok (.getfield 62, 3) := by decide +kernel
theorem dX11_hasTwins_9 : decode cX11_hasTwins 9 = .ok (.getfield 136, 3) := by decide +kernel
theorem dX11_hasTwins_12 : decode cX11_hasTwins 12 = .ok (.if_icmp .ge 62, 3) := by decide +kernel
theorem dX11_hasTwins_15 : decode cX11_hasTwins 15 = .ok (.iconst 0, 1) := by decide +kernel
theorem dX11_hasTwins_16 : decode cX11_hasTwins 16 = .ok (.istore_n 3, 1) := by decide +kernel
theorem dX11_hasTwins_17 : decode cX11_hasTwins 17 = .ok (.iload_n 3, 1) := by decide +kernel
theorem dX11_hasTwins_18 : decode cX11_hasTwins 18 = .ok (.iload_n 2, 1) := by decide +kernel
theorem dX11_hasTwins_19 : decode cX11_hasTwins 19 = .ok (.if_icmp .ge 49, 3) := by decide +kernel
theorem dX11_hasTwins_22 : decode cX11_hasTwins 22 = .ok (.iload_n 1, 1) := by decide +kernel
theorem dX11_hasTwins_23 : decode cX11_hasTwins 23 = .ok (.ifCond .ne 33, 3) := by decide +kernel
theorem dX11_hasTwins_26 : decode cX11_hasTwins 26 = .ok (.aload_n 0, 1) := by decide +kernel
theorem dX11_hasTwins_27 : decode cX11_hasTwins 27 = .ok (.getfield 62, 3) := by decide +kernel
theorem dX11_hasTwins_30 : decode cX11_hasTwins 30 = .ok (.aload_n 0, 1) := by decide +kernel
theorem dX11_hasTwins_31 : decode cX11_hasTwins 31 = .ok (.getfield 62, 3) := by decide +kernel
theorem dX11_hasTwins_34 : decode cX11_hasTwins 34 = .ok (.iload_n 2, 1) := by decide +kernel
theorem dX11_hasTwins_35 : decode cX11_hasTwins 35 = .ok (.invokevirtual 150, 3) := by decide +kernel
theorem dX11_hasTwins_38 : decode cX11_hasTwins 38 = .ok (.aload_n 0, 1) := by decide +kernel
theorem dX11_hasTwins_39 : decode cX11_hasTwins 39 = .ok (.getfield 62, 3) := by decide +kernel
theorem dX11_hasTwins_42 : decode cX11_hasTwins 42 = .ok (.aload_n 0, 1) := by decide +kernel
theorem dX11_hasTwins_43 : decode cX11_hasTwins 43 = .ok (.getfield 62, 3) := by decide +kernel
theorem dX11_hasTwins_46 : decode cX11_hasTwins 46 = .ok (.iload_n 3, 1) := by decide +kernel
theorem dX11_hasTwins_47 : decode cX11_hasTwins 47 = .ok (.invokevirtual 150, 3) := by decide +kernel
theorem dX11_hasTwins_50 : decode cX11_hasTwins 50 = .ok (.invokevirtual 153, 3) := by decide +kernel
theorem dX11_hasTwins_53 : decode cX11_hasTwins 53 = .ok (.ifCond .eq 7, 3) := by decide +kernel
theorem dX11_hasTwins_56 : decode cX11_hasTwins 56 = .ok (.iconst 1, 1) := by decide +kernel
theorem dX11_hasTwins_57 : decode cX11_hasTwins 57 = .ok (.goto 4, 3) := by decide +kernel
theorem dX11_hasTwins_60 : decode cX11_hasTwins 60 = .ok (.iconst 0, 1) := by decide +kernel
theorem dX11_hasTwins_61 : decode cX11_hasTwins 61 = .ok (.istore_n 1, 1) := by decide +kernel
theorem dX11_hasTwins_62 : decode cX11_hasTwins 62 = .ok (.iinc 3 1, 3) := by decide +kernel
theorem dX11_hasTwins_65 : decode cX11_hasTwins 65 = .ok (.goto (-48), 3) := by decide +kernel
theorem dX11_hasTwins_68 : decode cX11_hasTwins 68 = .ok (.iinc 2 1, 3) := by decide +kernel
theorem dX11_hasTwins_71 : decode cX11_hasTwins 71 = .ok (.goto (-67), 3) := by decide +kernel
theorem dX11_hasTwins_74 : decode cX11_hasTwins 74 = .ok (.iconst 0, 1) := by decide +kernel
theorem dX11_hasTwins_75 : decode cX11_hasTwins 75 = .ok (.istore_n 2, 1) := by decide +kernel
theorem dX11_hasTwins_76 : decode cX11_hasTwins 76 = .ok (.iload_n 2, 1) := by decide +kernel
theorem dX11_hasTwins_77 : decode cX11_hasTwins 77 = .ok (.aload_n 0, 1) := by decide +kernel
theorem dX11_hasTwins_78 : decode cX11_hasTwins 78 = .ok (.getfield 62, 3) := by decide +kernel
theorem dX11_hasTwins_81 : decode cX11_hasTwins 81 = .ok (.getfield 100, 3) := by decide +kernel
theorem dX11_hasTwins_84 : decode cX11_hasTwins 84 = .ok (.if_icmp .ge 64, 3) := by decide +kernel
theorem dX11_hasTwins_87 : decode cX11_hasTwins 87 = .ok (.iconst 0, 1) := by decide +kernel
theorem dX11_hasTwins_88 : decode cX11_hasTwins 88 = .ok (.istore_n 3, 1) := by decide +kernel
theorem dX11_hasTwins_89 : decode cX11_hasTwins 89 = .ok (.iload_n 3, 1) := by decide +kernel
theorem dX11_hasTwins_90 : decode cX11_hasTwins 90 = .ok (.iload_n 2, 1) := by decide +kernel
theorem dX11_hasTwins_91 : decode cX11_hasTwins 91 = .ok (.if_icmp .ge 51, 3) := by decide +kernel
theorem dX11_hasTwins_94 : decode cX11_hasTwins 94 = .ok (.iload_n 1, 1) := by decide +kernel
theorem dX11_hasTwins_95 : decode cX11_hasTwins 95 = .ok (.ifCond .ne 35, 3) := by decide +kernel
theorem dX11_hasTwins_98 : decode cX11_hasTwins 98 = .ok (.aload_n 0, 1) := by decide +kernel
theorem dX11_hasTwins_99 : decode cX11_hasTwins 99 = .ok (.getfield 62, 3) := by decide +kernel
theorem dX11_hasTwins_102 : decode cX11_hasTwins 102 = .ok (.aload_n 0, 1) := by decide +kernel
theorem dX11_hasTwins_103 : decode cX11_hasTwins 103 = .ok (.getfield 62, 3) := by decide +kernel
theorem dX11_hasTwins_106 : decode cX11_hasTwins 106 = .ok (.iload_n 2, 1) := by decide +kernel
theorem dX11_hasTwins_107 : decode cX11_hasTwins 107 = .ok (.iconst 1, 1) := by decide +kernel
theorem dX11_hasTwins_108 : decode cX11_hasTwins 108 = .ok (.invokevirtual 146, 3) := by decide +kernel
theorem dX11_hasTwins_111 : decode cX11_hasTwins 111 = .ok (.aload_n 0, 1) := by decide +kernel
theorem dX11_hasTwins_112 : decode cX11_hasTwins 112 = .ok (.getfield 62, 3) := by decide +kernel
theorem dX11_hasTwins_115 : decode cX11_hasTwins 115 = .ok (.aload_n 0, 1) := by decide +kernel
theorem dX11_hasTwins_116 : decode cX11_hasTwins 116 = .ok (.getfield 62, 3) := by decide +kernel
theorem dX11_hasTwins_119 : decode cX11_hasTwins 119 = .ok (.iload_n 3, 1) := by decide +kernel
theorem dX11_hasTwins_120 : decode cX11_hasTwins 120 = .ok (.iconst 1, 1) := by decide +kernel
theorem dX11_hasTwins_121 : decode cX11_hasTwins 121 = .ok (.invokevirtual 146, 3) := by decide +kernel
theorem dX11_hasTwins_124 : decode cX11_hasTwins 124 = .ok (.invokevirtual 153, 3) := by decide +kernel
theorem dX11_hasTwins_127 : decode cX11_hasTwins 127 = .ok (.ifCond .eq 7, 3) := by decide +kernel
theorem dX11_hasTwins_130 : decode cX11_hasTwins 130 = .ok (.iconst 1, 1) := by decide +kernel
theorem dX11_hasTwins_131 : decode cX11_hasTwins 131 = .ok (.goto 4, 3) := by decide +kernel
theorem dX11_hasTwins_134 : decode cX11_hasTwins 134 = .ok (.iconst 0, 1) := by decide +kernel
theorem dX11_hasTwins_135 : decode cX11_hasTwins 135 = .ok (.istore_n 1, 1) := by decide +kernel
theorem dX11_hasTwins_136 : decode cX11_hasTwins 136 = .ok (.iinc 3 1, 3) := by decide +kernel
theorem dX11_hasTwins_139 : decode cX11_hasTwins 139 = .ok (.goto (-50), 3) := by decide +kernel
theorem dX11_hasTwins_142 : decode cX11_hasTwins 142 = .ok (.iinc 2 1, 3) := by decide +kernel
theorem dX11_hasTwins_145 : decode cX11_hasTwins 145 = .ok (.goto (-69), 3) := by decide +kernel
theorem dX11_hasTwins_148 : decode cX11_hasTwins 148 = .ok (.iload_n 1, 1) := by decide +kernel
theorem dX11_hasTwins_149 : decode cX11_hasTwins 149 = .ok (.ireturn, 1) := by decide +kernel
theorem rs_RX11_132 : mx_res RX11 132 = some (1, 198, 1) := by decide +kernel
theorem mt_X11_takeImage : mx_mt 311 = some (yX11_takeImage, cX11_takeImage, 3, none) := rfl
theorem dX11_takeImage_0 : decode cX11_takeImage 0 = .ok (.aload_n 0, 1) := by decide +kernel
theorem dX11_takeImage_1 : decode cX11_takeImage 1 = .ok (.getfield 50, 3) := by decide +kernel
theorem dX11_takeImage_4 : decode cX11_takeImage 4 = .ok (.iload_n 1, 1) := by decide +kernel
theorem dX11_takeImage_5 : decode cX11_takeImage 5 = .ok (.invokevirtual 132, 3) := by decide +kernel
theorem dX11_takeImage_8 : decode cX11_takeImage 8 = .ok (.astore_n 2, 1) := by decide +kernel
theorem dX11_takeImage_9 : decode cX11_takeImage 9 = .ok (.aload_n 2, 1) := by decide +kernel
theorem dX11_takeImage_10 : decode cX11_takeImage 10 = .ok (.ifnull 8, 3) := by decide +kernel
theorem dX11_takeImage_13 : decode cX11_takeImage 13 = .ok (.aload_n 0, 1) := by decide +kernel
theorem dX11_takeImage_14 : decode cX11_takeImage 14 = .ok (.aload_n 2, 1) := by decide +kernel
theorem dX11_takeImage_15 : decode cX11_takeImage 15 = .ok (.putfield 62, 3) := by decide +kernel
theorem dX11_takeImage_18 : decode cX11_takeImage 18 = .ok (.return_, 1) := by decide +kernel
theorem mt_X11_tellNumber : mx_mt 309 = some (yX11_tellNumber, cX11_tellNumber, 5, (some .int)) := rfl
theorem dX11_tellNumber_0 : decode cX11_tellNumber 0 = .ok (.aload_n 0, 1) := by decide +kernel
theorem dX11_tellNumber_1 : decode cX11_tellNumber 1 = .ok (.iload_n 2, 1) := by decide +kernel
theorem dX11_tellNumber_2 : decode cX11_tellNumber 2 = .ok (.putfield 11, 3) := by decide +kernel
theorem dX11_tellNumber_5 : decode cX11_tellNumber 5 = .ok (.aload_n 0, 1) := by decide +kernel
theorem dX11_tellNumber_6 : decode cX11_tellNumber 6 = .ok (.iload_n 3, 1) := by decide +kernel
theorem dX11_tellNumber_7 : decode cX11_tellNumber 7 = .ok (.putfield 17, 3) := by decide +kernel
theorem dX11_tellNumber_10 : decode cX11_tellNumber 10 = .ok (.aload_n 0, 1) := by decide +kernel
theorem dX11_tellNumber_11 : decode cX11_tellNumber 11 = .ok (.iload 4, 2) := by decide +kernel
theorem dX11_tellNumber_13 : decode cX11_tellNumber 13 = .ok (.putfield 20, 3) := by decide +kernel
theorem dX11_tellNumber_16 : decode cX11_tellNumber 16 = .ok (.iload_n 1, 1) := by decide +kernel
theorem dX11_tellNumber_17 : decode cX11_tellNumber 17 = .ok (.ireturn, 1) := by decide +kernel
theorem mt_X4_endsAbove : mx_mt 141 = some (yX4_endsAbove, cX4_endsAbove, 4, (some .boolean)) := rfl
theorem dX4_endsAbove_0 : decode cX4_endsAbove 0 = .ok (.iload_n 1, 1) := by decide +kernel
theorem dX4_endsAbove_1 : decode cX4_endsAbove 1 = .ok (.istore_n 2, 1) := by decide +kernel
theorem dX4_endsAbove_2 : decode cX4_endsAbove 2 = .ok (.iconst 0, 1) := by decide +kernel
theorem dX4_endsAbove_3 : decode cX4_endsAbove 3 = .ok (.istore_n 3, 1) := by decide +kernel
theorem dX4_endsAbove_4 : decode cX4_endsAbove 4 = .ok (.iload_n 3, 1) := by decide +kernel
theorem dX4_endsAbove_5 : decode cX4_endsAbove 5 = .ok (.bipush 16, 2) := by decide +kernel
theorem dX4_endsAbove_7 : decode cX4_endsAbove 7 = .ok (.if_icmp .gt 26, 3) := by decide +kernel
theorem dX4_endsAbove_10 : decode cX4_endsAbove 10 = .ok (.iload_n 2, 1) := by decide +kernel
theorem dX4_endsAbove_11 : decode cX4_endsAbove 11 = .ok (.ifCond .lt 22, 3) := by decide +kernel
theorem dX4_endsAbove_14 : decode cX4_endsAbove 14 = .ok (.iload_n 2, 1) := by decide +kernel
theorem dX4_endsAbove_15 : decode cX4_endsAbove 15 = .ok (.bipush 16, 2) := by decide +kernel
theorem dX4_endsAbove_17 : decode cX4_endsAbove 17 = .ok (.if_icmp .ge 16, 3) := by decide +kernel
theorem dX4_endsAbove_20 : decode cX4_endsAbove 20 = .ok (.aload_n 0, 1) := by decide +kernel
theorem dX4_endsAbove_21 : decode cX4_endsAbove 21 = .ok (.getfield 11, 3) := by decide +kernel
theorem dX4_endsAbove_24 : decode cX4_endsAbove 24 = .ok (.iload_n 2, 1) := by decide +kernel
theorem dX4_endsAbove_25 : decode cX4_endsAbove 25 = .ok (.iaload, 1) := by decide +kernel
theorem dX4_endsAbove_26 : decode cX4_endsAbove 26 = .ok (.istore_n 2, 1) := by decide +kernel
theorem dX4_endsAbove_27 : decode cX4_endsAbove 27 = .ok (.iinc 3 1, 3) := by decide +kernel
theorem dX4_endsAbove_30 : decode cX4_endsAbove 30 = .ok (.goto (-26), 3) := by decide +kernel
theorem dX4_endsAbove_33 : decode cX4_endsAbove 33 = .ok (.iload_n 2, 1) := by decide +kernel
theorem dX4_endsAbove_34 : decode cX4_endsAbove 34 = .ok (.iconst (-1), 1) := by decide +kernel
theorem dX4_endsAbove_35 : decode cX4_endsAbove 35 = .ok (.if_icmp .ne 7, 3) := by decide +kernel
theorem dX4_endsAbove_38 : decode cX4_endsAbove 38 = .ok (.iconst 1, 1) := by decide +kernel
theorem dX4_endsAbove_39 : decode cX4_endsAbove 39 = .ok (.goto 4, 3) := by decide +kernel
theorem dX4_endsAbove_42 : decode cX4_endsAbove 42 = .ok (.iconst 0, 1) := by decide +kernel
theorem dX4_endsAbove_43 : decode cX4_endsAbove 43 = .ok (.ireturn, 1) := by decide +kernel
theorem rs_RX11_68 : mx_res RX11 68 = some (0, 7, 3) := by decide +kernel
theorem rs_RX11_71 : mx_res RX11 71 = some (1, 311, 1) := by decide +kernel
theorem rs_RX11_79 : mx_res RX11 79 = some (1, 312, 0) := by decide +kernel
theorem rs_RX11_83 : mx_res RX11 83 = some (1, 141, 1) := by decide +kernel
theorem rs_RX11_87 : mx_res RX11 87 = some (1, 313, 0) := by decide +kernel
theorem rs_RX11_90 : mx_res RX11 90 = some (1, 314, 1) := by decide +kernel
theorem rs_RX11_93 : mx_res RX11 93 = some (1, 309, 4) := by decide +kernel
theorem mt_X11_proveHeads : mx_mt 307 = some (yX11_proveHeads, cX11_proveHeads, 3, (some .int)) := rfl
theorem dX11_proveHeads_0 : decode cX11_proveHeads 0 = .ok (.bipush 8, 2) := by decide +kernel
theorem dX11_proveHeads_2 : decode cX11_proveHeads 2 = .ok (.istore_n 1, 1) := by decide +kernel
theorem dX11_proveHeads_3 : decode cX11_proveHeads 3 = .ok (.iload_n 1, 1) := by decide +kernel
theorem dX11_proveHeads_4 : decode cX11_proveHeads 4 = .ok (.bipush 8, 2) := by decide +kernel
theorem dX11_proveHeads_6 : decode cX11_proveHeads 6 = .ok (.aload_n 0, 1) := by decide +kernel
theorem dX11_proveHeads_7 : decode cX11_proveHeads 7 = .ok (.getfield 50, 3) := by decide +kernel
theorem dX11_proveHeads_10 : decode cX11_proveHeads 10 = .ok (.getfield 68, 3) := by decide +kernel
theorem dX11_proveHeads_13 : decode cX11_proveHeads 13 = .ok (.iadd, 1) := by decide +kernel
theorem dX11_proveHeads_14 : decode cX11_proveHeads 14 = .ok (.if_icmp .ge 86, 3) := by decide +kernel
theorem dX11_proveHeads_17 : decode cX11_proveHeads 17 = .ok (.aload_n 0, 1) := by decide +kernel
theorem dX11_proveHeads_18 : decode cX11_proveHeads 18 = .ok (.iload_n 1, 1) := by decide +kernel
theorem dX11_proveHeads_19 : decode cX11_proveHeads 19 = .ok (.invokevirtual 71, 3) := by decide +kernel
theorem dX11_proveHeads_22 : decode cX11_proveHeads 22 = .ok (.iconst 0, 1) := by decide +kernel
theorem dX11_proveHeads_23 : decode cX11_proveHeads 23 = .ok (.istore_n 2, 1) := by decide +kernel
theorem dX11_proveHeads_24 : decode cX11_proveHeads 24 = .ok (.aload_n 0, 1) := by decide +kernel
theorem dX11_proveHeads_25 : decode cX11_proveHeads 25 = .ok (.getfield 60, 3) := by decide +kernel
theorem dX11_proveHeads_28 : decode cX11_proveHeads 28 = .ok (.iload_n 1, 1) := by decide +kernel
theorem dX11_proveHeads_29 : decode cX11_proveHeads 29 = .ok (.invokevirtual 75, 3) := by decide +kernel
theorem dX11_proveHeads_32 : decode cX11_proveHeads 32 = .ok (.iconst (-1), 1) := by decide +kernel
theorem dX11_proveHeads_33 : decode cX11_proveHeads 33 = .ok (.if_icmp .eq 21, 3) := by decide +kernel
theorem dX11_proveHeads_36 : decode cX11_proveHeads 36 = .ok (.aload_n 0, 1) := by decide +kernel
theorem dX11_proveHeads_37 : decode cX11_proveHeads 37 = .ok (.invokevirtual 79, 3) := by decide +kernel
theorem dX11_proveHeads_40 : decode cX11_proveHeads 40 = .ok (.ifCond .eq 14, 3) := by decide +kernel
theorem dX11_proveHeads_43 : decode cX11_proveHeads 43 = .ok (.aload_n 0, 1) := by decide +kernel
theorem dX11_proveHeads_44 : decode cX11_proveHeads 44 = .ok (.getfield 60, 3) := by decide +kernel
theorem dX11_proveHeads_47 : decode cX11_proveHeads 47 = .ok (.iload_n 1, 1) := by decide +kernel
theorem dX11_proveHeads_48 : decode cX11_proveHeads 48 = .ok (.invokevirtual 83, 3) := by decide +kernel
theorem dX11_proveHeads_51 : decode cX11_proveHeads 51 = .ok (.ifCond .ne 8, 3) := by decide +kernel
theorem dX11_proveHeads_54 : decode cX11_proveHeads 54 = .ok (.iconst 3, 1) := by decide +kernel
theorem dX11_proveHeads_55 : decode cX11_proveHeads 55 = .ok (.istore_n 2, 1) := by decide +kernel
theorem dX11_proveHeads_56 : decode cX11_proveHeads 56 = .ok (.goto 25, 3) := by decide +kernel
theorem dX11_proveHeads_59 : decode cX11_proveHeads 59 = .ok (.aload_n 0, 1) := by decide +kernel
theorem dX11_proveHeads_60 : decode cX11_proveHeads 60 = .ok (.invokevirtual 87, 3) := by decide +kernel
theorem dX11_proveHeads_63 : decode cX11_proveHeads 63 = .ok (.ifCond .eq 8, 3) := by decide +kernel
theorem dX11_proveHeads_66 : decode cX11_proveHeads 66 = .ok (.iconst 4, 1) := by decide +kernel
theorem dX11_proveHeads_67 : decode cX11_proveHeads 67 = .ok (.istore_n 2, 1) := by decide +kernel
theorem dX11_proveHeads_68 : decode cX11_proveHeads 68 = .ok (.goto 13, 3) := by decide +kernel
theorem dX11_proveHeads_71 : decode cX11_proveHeads 71 = .ok (.aload_n 0, 1) := by decide +kernel
theorem dX11_proveHeads_72 : decode cX11_proveHeads 72 = .ok (.iload_n 1, 1) := by decide +kernel
theorem dX11_proveHeads_73 : decode cX11_proveHeads 73 = .ok (.invokevirtual 90, 3) := by decide +kernel
theorem dX11_proveHeads_76 : decode cX11_proveHeads 76 = .ok (.ifCond .eq 5, 3) := by decide +kernel
theorem dX11_proveHeads_79 : decode cX11_proveHeads 79 = .ok (.iconst 5, 1) := by decide +kernel
theorem dX11_proveHeads_80 : decode cX11_proveHeads 80 = .ok (.istore_n 2, 1) := by decide +kernel
theorem dX11_proveHeads_81 : decode cX11_proveHeads 81 = .ok (.iload_n 2, 1) := by decide +kernel
theorem dX11_proveHeads_82 : decode cX11_proveHeads 82 = .ok (.ifCond .eq 12, 3) := by decide +kernel
theorem dX11_proveHeads_85 : decode cX11_proveHeads 85 = .ok (.aload_n 0, 1) := by decide +kernel
theorem dX11_proveHeads_86 : decode cX11_proveHeads 86 = .ok (.iload_n 2, 1) := by decide +kernel
theorem dX11_proveHeads_87 : decode cX11_proveHeads 87 = .ok (.iload_n 1, 1) := by decide +kernel
theorem dX11_proveHeads_88 : decode cX11_proveHeads 88 = .ok (.iconst (-1), 1) := by decide +kernel
theorem dX11_proveHeads_89 : decode cX11_proveHeads 89 = .ok (.iconst (-1), 1) := by decide +kernel
theorem dX11_proveHeads_90 : decode cX11_proveHeads 90 = .ok (.invokevirtual 93, 3) := by decide +kernel
theorem dX11_proveHeads_93 : decode cX11_proveHeads 93 = .ok (.ireturn, 1) := by decide +kernel
theorem dX11_proveHeads_94 : decode cX11_proveHeads 94 = .ok (.iinc 1 1, 3) := by decide +kernel
theorem dX11_proveHeads_97 : decode cX11_proveHeads 97 = .ok (.goto (-94), 3) := by decide +kernel
theorem dX11_proveHeads_100 : decode cX11_proveHeads 100 = .ok (.iconst 0, 1) := by decide +kernel
theorem dX11_proveHeads_101 : decode cX11_proveHeads 101 = .ok (.ireturn, 1) := by decide +kernel
theorem rs_RX11_103 : mx_res RX11 103 = some (0, 11, 6) := by decide +kernel
theorem mt_X11_info : mx_mt 317 = some (yX11_info, cX11_info, 2, (some .int)) := rfl
theorem dX11_info_0 : decode cX11_info 0 = .ok (.aload_n 0, 1) := by decide +kernel
theorem dX11_info_1 : decode cX11_info 1 = .ok (.getfield 62, 3) := by decide +kernel
theorem dX11_info_4 : decode cX11_info 4 = .ok (.aload_n 0, 1) := by decide +kernel
theorem dX11_info_5 : decode cX11_info 5 = .ok (.getfield 103, 3) := by decide +kernel
theorem dX11_info_8 : decode cX11_info 8 = .ok (.iload_n 1, 1) := by decide +kernel
theorem dX11_info_9 : decode cX11_info 9 = .ok (.invokevirtual 146, 3) := by decide +kernel
theorem dX11_info_12 : decode cX11_info 12 = .ok (.ireturn, 1) := by decide +kernel
theorem rs_RX11_189 : mx_res RX11 189 = some (1, 317, 1) := by decide +kernel
theorem rs_RX11_204 : mx_res RX11 204 = some (14, 0, 0) := by decide +kernel
theorem rs_RX11_255 : mx_res RX11 255 = some (0, 11, 18) := by decide +kernel
theorem rs_RX11_258 : mx_res RX11 258 = some (2, 600, 2) := by decide +kernel
theorem rs_RX11_261 : mx_res RX11 261 = some (0, 11, 17) := by decide +kernel
theorem rs_RX11_264 : mx_res RX11 264 = some (0, 11, 20) := by decide +kernel
theorem rs_RX11_267 : mx_res RX11 267 = some (6, 0, 0) := by decide +kernel
theorem ft_11_17 : mx_fty 11 17 = some (.int, false, "ClassMill$Verifier") := by decide +kernel
theorem ft_11_18 : mx_fty 11 18 = some (.int, false, "ClassMill$Verifier") := by decide +kernel
theorem ft_11_20 : mx_fty 11 20 = some (.int, false, "ClassMill$Verifier") := by decide +kernel
theorem mt_X11_beginState : mx_mt 337 = some (yX11_beginState, cX11_beginState, 4, none) := rfl
theorem dX11_beginState_0 : decode cX11_beginState 0 = .ok (.aload_n 0, 1) := by decide +kernel
theorem dX11_beginState_1 : decode cX11_beginState 1 = .ok (.iconst 0, 1) := by decide +kernel
theorem dX11_beginState_2 : decode cX11_beginState 2 = .ok (.putfield 255, 3) := by decide +kernel
theorem dX11_beginState_5 : decode cX11_beginState 5 = .ok (.aload_n 0, 1) := by decide +kernel
theorem dX11_beginState_6 : decode cX11_beginState 6 = .ok (.getfield 44, 3) := by decide +kernel
theorem dX11_beginState_9 : decode cX11_beginState 9 = .ok (.sipush 304, 3) := by decide +kernel
theorem dX11_beginState_12 : decode cX11_beginState 12 = .ok (.invokestatic 258, 3) := by decide +kernel
theorem dX11_beginState_15 : decode cX11_beginState 15 = .ok (.aload_n 0, 1) := by decide +kernel
theorem dX11_beginState_16 : decode cX11_beginState 16 = .ok (.aload_n 0, 1) := by decide +kernel
theorem dX11_beginState_17 : decode cX11_beginState 17 = .ok (.iconst 3, 1) := by decide +kernel
theorem dX11_beginState_18 : decode cX11_beginState 18 = .ok (.invokevirtual 189, 3) := by decide +kernel
theorem dX11_beginState_21 : decode cX11_beginState 21 = .ok (.aload_n 0, 1) := by decide +kernel
theorem dX11_beginState_22 : decode cX11_beginState 22 = .ok (.getfield 47, 3) := by decide +kernel
theorem dX11_beginState_25 : decode cX11_beginState 25 = .ok (.arraylength, 1) := by decide +kernel
theorem dX11_beginState_26 : decode cX11_beginState 26 = .ok (.invokestatic 204, 3) := by decide +kernel
theorem dX11_beginState_29 : decode cX11_beginState 29 = .ok (.putfield 261, 3) := by decide +kernel
theorem dX11_beginState_32 : decode cX11_beginState 32 = .ok (.aload_n 0, 1) := by decide +kernel
theorem dX11_beginState_33 : decode cX11_beginState 33 = .ok (.getfield 50, 3) := by decide +kernel
theorem dX11_beginState_36 : decode cX11_beginState 36 = .ok (.aload_n 0, 1) := by decide +kernel
theorem dX11_beginState_37 : decode cX11_beginState 37 = .ok (.getfield 62, 3) := by decide +kernel
theorem dX11_beginState_40 : decode cX11_beginState 40 = .ok (.aload_n 0, 1) := by decide +kernel
theorem dX11_beginState_41 : decode cX11_beginState 41 = .ok (.iconst 2, 1) := by decide +kernel
theorem dX11_beginState_42 : decode cX11_beginState 42 = .ok (.invokevirtual 189, 3) := by decide +kernel
theorem dX11_beginState_45 : decode cX11_beginState 45 = .ok (.aload_n 0, 1) := by decide +kernel
theorem dX11_beginState_46 : decode cX11_beginState 46 = .ok (.getfield 33, 3) := by decide +kernel
theorem dX11_beginState_49 : decode cX11_beginState 49 = .ok (.iconst 0, 1) := by decide +kernel
theorem dX11_beginState_50 : decode cX11_beginState 50 = .ok (.invokevirtual 142, 3) := by decide +kernel
theorem dX11_beginState_53 : decode cX11_beginState 53 = .ok (.istore_n 2, 1) := by decide +kernel
theorem dX11_beginState_54 : decode cX11_beginState 54 = .ok (.aload_n 0, 1) := by decide +kernel
theorem dX11_beginState_55 : decode cX11_beginState 55 = .ok (.aload_n 0, 1) := by decide +kernel
theorem dX11_beginState_56 : decode cX11_beginState 56 = .ok (.getfield 33, 3) := by decide +kernel
theorem dX11_beginState_59 : decode cX11_beginState 59 = .ok (.iconst 0, 1) := by decide +kernel
theorem dX11_beginState_60 : decode cX11_beginState 60 = .ok (.iaload, 1) := by decide +kernel
theorem dX11_beginState_61 : decode cX11_beginState 61 = .ok (.putfield 264, 3) := by decide +kernel
theorem dX11_beginState_64 : decode cX11_beginState 64 = .ok (.iconst 0, 1) := by decide +kernel
theorem dX11_beginState_65 : decode cX11_beginState 65 = .ok (.istore_n 3, 1) := by decide +kernel
theorem dX11_beginState_66 : decode cX11_beginState 66 = .ok (.aload_n 0, 1) := by decide +kernel
theorem dX11_beginState_67 : decode cX11_beginState 67 = .ok (.iconst 0, 1) := by decide +kernel
theorem dX11_beginState_68 : decode cX11_beginState 68 = .ok (.invokevirtual 189, 3) := by decide +kernel
theorem dX11_beginState_71 : decode cX11_beginState 71 = .ok (.ifCond .ne 12, 3) := by decide +kernel
theorem dX11_beginState_74 : decode cX11_beginState 74 = .ok (.aload_n 0, 1) := by decide +kernel
theorem dX11_beginState_75 : decode cX11_beginState 75 = .ok (.getfield 44, 3) := by decide +kernel
theorem dX11_beginState_78 : decode cX11_beginState 78 = .ok (.iconst 0, 1) := by decide +kernel
theorem dX11_beginState_79 : decode cX11_beginState 79 = .ok (.iload_n 1, 1) := by decide +kernel
theorem dX11_beginState_80 : decode cX11_beginState 80 = .ok (.iastore, 1) := by decide +kernel
theorem dX11_beginState_81 : decode cX11_beginState 81 = .ok (.iconst 1, 1) := by decide +kernel
theorem dX11_beginState_82 : decode cX11_beginState 82 = .ok (.istore_n 3, 1) := by decide +kernel
theorem dX11_beginState_83 : decode cX11_beginState 83 = .ok (.aload_n 0, 1) := by decide +kernel
theorem dX11_beginState_84 : decode cX11_beginState 84 = .ok (.getfield 33, 3) := by decide +kernel
theorem dX11_beginState_87 : decode cX11_beginState 87 = .ok (.iconst 1, 1) := by decide +kernel
theorem dX11_beginState_88 : decode cX11_beginState 88 = .ok (.aload_n 0, 1) := by decide +kernel
theorem dX11_beginState_89 : decode cX11_beginState 89 = .ok (.getfield 44, 3) := by decide +kernel
theorem dX11_beginState_92 : decode cX11_beginState 92 = .ok (.iload_n 3, 1) := by decide +kernel
theorem dX11_beginState_93 : decode cX11_beginState 93 = .ok (.iload_n 2, 1) := by decide +kernel
theorem dX11_beginState_94 : decode cX11_beginState 94 = .ok (.invokestatic 267, 3) := by decide +kernel
theorem dX11_beginState_97 : decode cX11_beginState 97 = .ok (.return_, 1) := by decide +kernel
theorem mt_X11_areThere : mx_mt 336 = some (yX11_areThere, cX11_areThere, 5, (some .boolean)) := rfl
theorem dX11_areThere_0 : decode cX11_areThere 0 = .ok (.iconst 1, 1) := by decide +kernel
theorem dX11_areThere_1 : decode cX11_areThere 1 = .ok (.istore_n 3, 1) := by decide +kernel
theorem dX11_areThere_2 : decode cX11_areThere 2 = .ok (.iload_n 1, 1) := by decide +kernel
theorem dX11_areThere_3 : decode cX11_areThere 3 = .ok (.istore 4, 2) := by decide +kernel
theorem dX11_areThere_5 : decode cX11_areThere 5 = .ok (.iload 4, 2) := by decide +kernel
theorem dX11_areThere_7 : decode cX11_areThere 7 = .ok (.iload_n 1, 1) := by decide +kernel
theorem dX11_areThere_8 : decode cX11_areThere 8 = .ok (.iload_n 2, 1) := by decide +kernel
theorem dX11_areThere_9 : decode cX11_areThere 9 = .ok (.iadd, 1) := by decide +kernel
theorem dX11_areThere_10 : decode cX11_areThere 10 = .ok (.if_icmp .ge 39, 3) := by decide +kernel
theorem dX11_areThere_13 : decode cX11_areThere 13 = .ok (.iload 4, 2) := by decide +kernel
theorem dX11_areThere_15 : decode cX11_areThere 15 = .ok (.iload_n 1, 1) := by decide +kernel
theorem dX11_areThere_16 : decode cX11_areThere 16 = .ok (.bipush 30, 2) := by decide +kernel
theorem dX11_areThere_18 : decode cX11_areThere 18 = .ok (.iadd, 1) := by decide +kernel
theorem dX11_areThere_19 : decode cX11_areThere 19 = .ok (.if_icmp .ge 30, 3) := by decide +kernel
theorem dX11_areThere_22 : decode cX11_areThere 22 = .ok (.iload_n 3, 1) := by decide +kernel
theorem dX11_areThere_23 : decode cX11_areThere 23 = .ok (.ifCond .eq 18, 3) := by decide +kernel
theorem dX11_areThere_26 : decode cX11_areThere 26 = .ok (.aload_n 0, 1) := by decide +kernel
theorem dX11_areThere_27 : decode cX11_areThere 27 = .ok (.getfield 41, 3) := by decide +kernel
theorem dX11_areThere_30 : decode cX11_areThere 30 = .ok (.iload 4, 2) := by decide +kernel
theorem dX11_areThere_32 : decode cX11_areThere 32 = .ok (.iaload, 1) := by decide +kernel
theorem dX11_areThere_33 : decode cX11_areThere 33 = .ok (.iconst (-1), 1) := by decide +kernel
theorem dX11_areThere_34 : decode cX11_areThere 34 = .ok (.if_icmp .eq 7, 3) := by decide +kernel
theorem dX11_areThere_37 : decode cX11_areThere 37 = .ok (.iconst 1, 1) := by decide +kernel
theorem dX11_areThere_38 : decode cX11_areThere 38 = .ok (.goto 4, 3) := by decide +kernel
theorem dX11_areThere_41 : decode cX11_areThere 41 = .ok (.iconst 0, 1) := by decide +kernel
theorem dX11_areThere_42 : decode cX11_areThere 42 = .ok (.istore_n 3, 1) := by decide +kernel
theorem dX11_areThere_43 : decode cX11_areThere 43 = .ok (.iinc 4 1, 3) := by decide +kernel
theorem dX11_areThere_46 : decode cX11_areThere 46 = .ok (.goto (-41), 3) := by decide +kernel
theorem dX11_areThere_49 : decode cX11_areThere 49 = .ok (.iload_n 3, 1) := by decide +kernel
theorem dX11_areThere_50 : decode cX11_areThere 50 = .ok (.ireturn, 1) := by decide +kernel
theorem rs_RX11_129 : mx_res RX11 129 = some (0, 11, 7) := by decide +kernel
theorem ft_11_7 : mx_fty 11 7 = some (.int, false, "ClassMill$Verifier") := by decide +kernel
theorem mt_X11_at : mx_mt 310 = some (yX11_at, cX11_at, 3, (some .int)) := rfl
theorem dX11_at_0 : decode cX11_at 0 = .ok (.aload_n 0, 1) := by decide +kernel
theorem dX11_at_1 : decode cX11_at 1 = .ok (.iload_n 2, 1) := by decide +kernel
theorem dX11_at_2 : decode cX11_at 2 = .ok (.putfield 129, 3) := by decide +kernel
theorem dX11_at_5 : decode cX11_at 5 = .ok (.iload_n 1, 1) := by decide +kernel
theorem dX11_at_6 : decode cX11_at 6 = .ok (.ireturn, 1) := by decide +kernel
theorem rs_RX11_209 : mx_res RX11 209 = some (0, 11, 16) := by decide +kernel
theorem mt_X11_begins : mx_mt 326 = some (yX11_begins, cX11_begins, 2, (some .boolean)) := rfl
theorem dX11_begins_0 : decode cX11_begins 0 = .ok (.iload_n 1, 1) := by decide +kernel
theorem dX11_begins_1 : decode cX11_begins 1 = .ok (.ifCond .lt 26, 3) := by decide +kernel
theorem dX11_begins_4 : decode cX11_begins 4 = .ok (.iload_n 1, 1) := by decide +kernel
theorem dX11_begins_5 : decode cX11_begins 5 = .ok (.aload_n 0, 1) := by decide +kernel
theorem dX11_begins_6 : decode cX11_begins 6 = .ok (.getfield 209, 3) := by decide +kernel
theorem dX11_begins_9 : decode cX11_begins 9 = .ok (.if_icmp .ge 18, 3) := by decide +kernel
theorem dX11_begins_12 : decode cX11_begins 12 = .ok (.aload_n 0, 1) := by decide +kernel
theorem dX11_begins_13 : decode cX11_begins 13 = .ok (.getfield 38, 3) := by decide +kernel
theorem dX11_begins_16 : decode cX11_begins 16 = .ok (.iload_n 1, 1) := by decide +kernel
theorem dX11_begins_17 : decode cX11_begins 17 = .ok (.iaload, 1) := by decide +kernel
theorem dX11_begins_18 : decode cX11_begins 18 = .ok (.bipush (-2), 2) := by decide +kernel
theorem dX11_begins_20 : decode cX11_begins 20 = .ok (.if_icmp .eq 7, 3) := by decide +kernel
theorem dX11_begins_23 : decode cX11_begins 23 = .ok (.iconst 1, 1) := by decide +kernel
theorem dX11_begins_24 : decode cX11_begins 24 = .ok (.goto 4, 3) := by decide +kernel
theorem dX11_begins_27 : decode cX11_begins 27 = .ok (.iconst 0, 1) := by decide +kernel
theorem dX11_begins_28 : decode cX11_begins 28 = .ok (.ireturn, 1) := by decide +kernel
