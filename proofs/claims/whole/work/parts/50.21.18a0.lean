theorem rs_RX12_165 : mx_res RX12 165 = some (0, 7, 4) := by decide +kernel
theorem rs_RX12_199 : mx_res RX12 199 = some (0, 7, 3) := by decide +kernel
theorem rs_RX12_202 : mx_res RX12 202 = some (1, 147, 1) := by decide +kernel
theorem rs_RX12_205 : mx_res RX12 205 = some (1, 146, 1) := by decide +kernel
theorem mt_X12_look : mx_mt 376 = some (yX12_look, cX12_look, 2, (some .int)) := rfl
theorem dX12_look_0 : decode cX12_look 0 = .ok (.iload_n 1, 1) := by decide +kernel
theorem dX12_look_1 : decode cX12_look 1 = .ok (.tableswitch 56 11 13 #[27, 35, 51], 27) := by decide +kernel
theorem dX12_look_28 : decode cX12_look 28 = .ok (.aload_n 0, 1) := by decide +kernel
theorem dX12_look_29 : decode cX12_look 29 = .ok (.getfield 53, 3) := by decide +kernel
theorem dX12_look_32 : decode cX12_look 32 = .ok (.getfield 199, 3) := by decide +kernel
theorem dX12_look_35 : decode cX12_look 35 = .ok (.ireturn, 1) := by decide +kernel
theorem dX12_look_36 : decode cX12_look 36 = .ok (.aload_n 0, 1) := by decide +kernel
theorem dX12_look_37 : decode cX12_look 37 = .ok (.getfield 53, 3) := by decide +kernel
theorem dX12_look_40 : decode cX12_look 40 = .ok (.getfield 165, 3) := by decide +kernel
theorem dX12_look_43 : decode cX12_look 43 = .ok (.ifCond .eq 7, 3) := by decide +kernel
theorem dX12_look_46 : decode cX12_look 46 = .ok (.iconst 1, 1) := by decide +kernel
theorem dX12_look_47 : decode cX12_look 47 = .ok (.goto 4, 3) := by decide +kernel
theorem dX12_look_50 : decode cX12_look 50 = .ok (.iconst 0, 1) := by decide +kernel
theorem dX12_look_51 : decode cX12_look 51 = .ok (.ireturn, 1) := by decide +kernel
theorem dX12_look_52 : decode cX12_look 52 = .ok (.aload_n 0, 1) := by decide +kernel
theorem dX12_look_53 : decode cX12_look 53 = .ok (.getfield 73, 3) := by decide +kernel
theorem dX12_look_56 : decode cX12_look 56 = .ok (.ireturn, 1) := by decide +kernel
theorem dX12_look_57 : decode cX12_look 57 = .ok (.iload_n 1, 1) := by decide +kernel
theorem dX12_look_58 : decode cX12_look 58 = .ok (.bipush 7, 2) := by decide +kernel
theorem dX12_look_60 : decode cX12_look 60 = .ok (.if_icmp .lt 20, 3) := by decide +kernel
theorem dX12_look_63 : decode cX12_look 63 = .ok (.iload_n 1, 1) := by decide +kernel
theorem dX12_look_64 : decode cX12_look 64 = .ok (.bipush 10, 2) := by decide +kernel
theorem dX12_look_66 : decode cX12_look 66 = .ok (.if_icmp .gt 14, 3) := by decide +kernel
theorem dX12_look_69 : decode cX12_look 69 = .ok (.aload_n 0, 1) := by decide +kernel
theorem dX12_look_70 : decode cX12_look 70 = .ok (.getfield 69, 3) := by decide +kernel
theorem dX12_look_73 : decode cX12_look 73 = .ok (.iload_n 1, 1) := by decide +kernel
theorem dX12_look_74 : decode cX12_look 74 = .ok (.invokevirtual 202, 3) := by decide +kernel
theorem dX12_look_77 : decode cX12_look 77 = .ok (.goto 11, 3) := by decide +kernel
theorem dX12_look_80 : decode cX12_look 80 = .ok (.aload_n 0, 1) := by decide +kernel
theorem dX12_look_81 : decode cX12_look 81 = .ok (.getfield 69, 3) := by decide +kernel
theorem dX12_look_84 : decode cX12_look 84 = .ok (.iload_n 1, 1) := by decide +kernel
theorem dX12_look_85 : decode cX12_look 85 = .ok (.invokevirtual 205, 3) := by decide +kernel
theorem dX12_look_88 : decode cX12_look 88 = .ok (.ireturn, 1) := by decide +kernel
theorem mt_X5_printedAt : mx_mt 148 = some (yX5_printedAt, cX5_printedAt, 2, (some .int)) := rfl
theorem dX5_printedAt_0 : decode cX5_printedAt 0 = .ok (.iload_n 1, 1) := by decide +kernel
theorem dX5_printedAt_1 : decode cX5_printedAt 1 = .ok (.ifCond .lt 27, 3) := by decide +kernel
theorem dX5_printedAt_4 : decode cX5_printedAt 4 = .ok (.iload_n 1, 1) := by decide +kernel
theorem dX5_printedAt_5 : decode cX5_printedAt 5 = .ok (.aload_n 0, 1) := by decide +kernel
theorem dX5_printedAt_6 : decode cX5_printedAt 6 = .ok (.getfield 69, 3) := by decide +kernel
theorem dX5_printedAt_9 : decode cX5_printedAt 9 = .ok (.if_icmp .ge 19, 3) := by decide +kernel
theorem dX5_printedAt_12 : decode cX5_printedAt 12 = .ok (.iload_n 1, 1) := by decide +kernel
theorem dX5_printedAt_13 : decode cX5_printedAt 13 = .ok (.sipush 1000, 3) := by decide +kernel
theorem dX5_printedAt_16 : decode cX5_printedAt 16 = .ok (.if_icmp .ge 12, 3) := by decide +kernel
theorem dX5_printedAt_19 : decode cX5_printedAt 19 = .ok (.aload_n 0, 1) := by decide +kernel
theorem dX5_printedAt_20 : decode cX5_printedAt 20 = .ok (.getfield 13, 3) := by decide +kernel
theorem dX5_printedAt_23 : decode cX5_printedAt 23 = .ok (.iload_n 1, 1) := by decide +kernel
theorem dX5_printedAt_24 : decode cX5_printedAt 24 = .ok (.iaload, 1) := by decide +kernel
theorem dX5_printedAt_25 : decode cX5_printedAt 25 = .ok (.goto 4, 3) := by decide +kernel
theorem dX5_printedAt_28 : decode cX5_printedAt 28 = .ok (.iconst 0, 1) := by decide +kernel
theorem dX5_printedAt_29 : decode cX5_printedAt 29 = .ok (.ireturn, 1) := by decide +kernel
theorem rs_RX12_208 : mx_res RX12 208 = some (1, 148, 1) := by decide +kernel
theorem mt_X12_out : mx_mt 377 = some (yX12_out, cX12_out, 2, (some .int)) := rfl
theorem dX12_out_0 : decode cX12_out 0 = .ok (.aload_n 0, 1) := by decide +kernel
theorem dX12_out_1 : decode cX12_out 1 = .ok (.getfield 69, 3) := by decide +kernel
theorem dX12_out_4 : decode cX12_out 4 = .ok (.iload_n 1, 1) := by decide +kernel
theorem dX12_out_5 : decode cX12_out 5 = .ok (.invokevirtual 208, 3) := by decide +kernel
theorem dX12_out_8 : decode cX12_out 8 = .ok (.ireturn, 1) := by decide +kernel
theorem mt_X3_ownBytes : mx_mt 94 = some (yX3_ownBytes, cX3_ownBytes, 1, (some (.array .byte))) := rfl
theorem dX3_ownBytes_0 : decode cX3_ownBytes 0 = .ok (.aload_n 0, 1) := by decide +kernel
theorem dX3_ownBytes_1 : decode cX3_ownBytes 1 = .ok (.getfield 9, 3) := by decide +kernel
theorem dX3_ownBytes_4 : decode cX3_ownBytes 4 = .ok (.areturn, 1) := by decide +kernel
theorem mt_X7_imageOf : mx_mt 198 = some (yX7_imageOf, cX7_imageOf, 2, (some (.object "ClassMill$Image"))) := rfl
theorem dX7_imageOf_0 : decode cX7_imageOf 0 = .ok (.iload_n 1, 1) := by decide +kernel
theorem dX7_imageOf_1 : decode cX7_imageOf 1 = .ok (.bipush 8, 2) := by decide +kernel
theorem dX7_imageOf_3 : decode cX7_imageOf 3 = .ok (.if_icmp .lt 26, 3) := by decide +kernel
theorem dX7_imageOf_6 : decode cX7_imageOf 6 = .ok (.iload_n 1, 1) := by decide +kernel
theorem dX7_imageOf_7 : decode cX7_imageOf 7 = .ok (.bipush 8, 2) := by decide +kernel
theorem dX7_imageOf_9 : decode cX7_imageOf 9 = .ok (.aload_n 0, 1) := by decide +kernel
theorem dX7_imageOf_10 : decode cX7_imageOf 10 = .ok (.getfield 41, 3) := by decide +kernel
theorem dX7_imageOf_13 : decode cX7_imageOf 13 = .ok (.iadd, 1) := by decide +kernel
theorem dX7_imageOf_14 : decode cX7_imageOf 14 = .ok (.if_icmp .ge 15, 3) := by decide +kernel
theorem dX7_imageOf_17 : decode cX7_imageOf 17 = .ok (.aload_n 0, 1) := by decide +kernel
theorem dX7_imageOf_18 : decode cX7_imageOf 18 = .ok (.getfield 22, 3) := by decide +kernel
theorem dX7_imageOf_21 : decode cX7_imageOf 21 = .ok (.iload_n 1, 1) := by decide +kernel
theorem dX7_imageOf_22 : decode cX7_imageOf 22 = .ok (.bipush 8, 2) := by decide +kernel
theorem dX7_imageOf_24 : decode cX7_imageOf 24 = .ok (.isub, 1) := by decide +kernel
theorem dX7_imageOf_25 : decode cX7_imageOf 25 = .ok (.aaload, 1) := by decide +kernel
theorem dX7_imageOf_26 : decode cX7_imageOf 26 = .ok (.goto 4, 3) := by decide +kernel
theorem dX7_imageOf_29 : decode cX7_imageOf 29 = .ok (.aconst_null, 1) := by decide +kernel
theorem dX7_imageOf_30 : decode cX7_imageOf 30 = .ok (.areturn, 1) := by decide +kernel
theorem rs_RX3_122 : mx_res RX3 122 = some (1, 107, 1) := by decide +kernel
theorem rs_RX3_125 : mx_res RX3 125 = some (1, 108, 1) := by decide +kernel
theorem rs_RX3_128 : mx_res RX3 128 = some (1, 109, 5) := by decide +kernel
theorem mt_X3_sameText : mx_mt 110 = some (yX3_sameText, cX3_sameText, 4, (some .boolean)) := rfl
theorem dX3_sameText_0 : decode cX3_sameText 0 = .ok (.aload_n 0, 1) := by decide +kernel
theorem dX3_sameText_1 : decode cX3_sameText 1 = .ok (.aload_n 0, 1) := by decide +kernel
theorem dX3_sameText_2 : decode cX3_sameText 2 = .ok (.iload_n 1, 1) := by decide +kernel
theorem dX3_sameText_3 : decode cX3_sameText 3 = .ok (.invokevirtual 122, 3) := by decide +kernel
theorem dX3_sameText_6 : decode cX3_sameText 6 = .ok (.aload_n 0, 1) := by decide +kernel
theorem dX3_sameText_7 : decode cX3_sameText 7 = .ok (.iload_n 1, 1) := by decide +kernel
theorem dX3_sameText_8 : decode cX3_sameText 8 = .ok (.invokevirtual 125, 3) := by decide +kernel
theorem dX3_sameText_11 : decode cX3_sameText 11 = .ok (.aload_n 2, 1) := by decide +kernel
theorem dX3_sameText_12 : decode cX3_sameText 12 = .ok (.aload_n 2, 1) := by decide +kernel
theorem dX3_sameText_13 : decode cX3_sameText 13 = .ok (.iload_n 3, 1) := by decide +kernel
theorem dX3_sameText_14 : decode cX3_sameText 14 = .ok (.invokevirtual 122, 3) := by decide +kernel
theorem dX3_sameText_17 : decode cX3_sameText 17 = .ok (.aload_n 2, 1) := by decide +kernel
theorem dX3_sameText_18 : decode cX3_sameText 18 = .ok (.iload_n 3, 1) := by decide +kernel
theorem dX3_sameText_19 : decode cX3_sameText 19 = .ok (.invokevirtual 125, 3) := by decide +kernel
theorem dX3_sameText_22 : decode cX3_sameText 22 = .ok (.invokevirtual 128, 3) := by decide +kernel
theorem dX3_sameText_25 : decode cX3_sameText 25 = .ok (.ireturn, 1) := by decide +kernel
theorem rs_RX7_109 : mx_res RX7 109 = some (1, 110, 3) := by decide +kernel
theorem mt_X7_isNamedAsOther : mx_mt 203 = some (yX7_isNamedAsOther, cX7_isNamedAsOther, 5, (some .boolean)) := rfl
theorem dX7_isNamedAsOther_0 : decode cX7_isNamedAsOther 0 = .ok (.aload_n 0, 1) := by decide +kernel
theorem dX7_isNamedAsOther_1 : decode cX7_isNamedAsOther 1 = .ok (.getfield 27, 3) := by decide +kernel
theorem dX7_isNamedAsOther_4 : decode cX7_isNamedAsOther 4 = .ok (.getfield 56, 3) := by decide +kernel
theorem dX7_isNamedAsOther_7 : decode cX7_isNamedAsOther 7 = .ok (.istore_n 2, 1) := by decide +kernel
theorem dX7_isNamedAsOther_8 : decode cX7_isNamedAsOther 8 = .ok (.aload_n 0, 1) := by decide +kernel
theorem dX7_isNamedAsOther_9 : decode cX7_isNamedAsOther 9 = .ok (.getfield 27, 3) := by decide +kernel
theorem dX7_isNamedAsOther_12 : decode cX7_isNamedAsOther 12 = .ok (.aload_n 0, 1) := by decide +kernel
theorem dX7_isNamedAsOther_13 : decode cX7_isNamedAsOther 13 = .ok (.getfield 27, 3) := by decide +kernel
theorem dX7_isNamedAsOther_16 : decode cX7_isNamedAsOther 16 = .ok (.iload_n 2, 1) := by decide +kernel
theorem dX7_isNamedAsOther_17 : decode cX7_isNamedAsOther 17 = .ok (.invokevirtual 59, 3) := by decide +kernel
theorem dX7_isNamedAsOther_20 : decode cX7_isNamedAsOther 20 = .ok (.aload_n 0, 1) := by decide +kernel
theorem dX7_isNamedAsOther_21 : decode cX7_isNamedAsOther 21 = .ok (.getfield 27, 3) := by decide +kernel
theorem dX7_isNamedAsOther_24 : decode cX7_isNamedAsOther 24 = .ok (.iload_n 2, 1) := by decide +kernel
theorem dX7_isNamedAsOther_25 : decode cX7_isNamedAsOther 25 = .ok (.invokevirtual 63, 3) := by decide +kernel
theorem dX7_isNamedAsOther_28 : decode cX7_isNamedAsOther 28 = .ok (.invokevirtual 105, 3) := by decide +kernel
theorem dX7_isNamedAsOther_31 : decode cX7_isNamedAsOther 31 = .ok (.iconst (-1), 1) := by decide +kernel
theorem dX7_isNamedAsOther_32 : decode cX7_isNamedAsOther 32 = .ok (.if_icmp .eq 7, 3) := by decide +kernel
theorem dX7_isNamedAsOther_35 : decode cX7_isNamedAsOther 35 = .ok (.iconst 1, 1) := by decide +kernel
theorem dX7_isNamedAsOther_36 : decode cX7_isNamedAsOther 36 = .ok (.goto 4, 3) := by decide +kernel
theorem dX7_isNamedAsOther_39 : decode cX7_isNamedAsOther 39 = .ok (.iconst 0, 1) := by decide +kernel
theorem dX7_isNamedAsOther_40 : decode cX7_isNamedAsOther 40 = .ok (.istore_n 3, 1) := by decide +kernel
theorem dX7_isNamedAsOther_41 : decode cX7_isNamedAsOther 41 = .ok (.iconst 0, 1) := by decide +kernel
theorem dX7_isNamedAsOther_42 : decode cX7_isNamedAsOther 42 = .ok (.istore 4, 2) := by decide +kernel
theorem dX7_isNamedAsOther_44 : decode cX7_isNamedAsOther 44 = .ok (.iload 4, 2) := by decide +kernel
theorem dX7_isNamedAsOther_46 : decode cX7_isNamedAsOther 46 = .ok (.aload_n 0, 1) := by decide +kernel
theorem dX7_isNamedAsOther_47 : decode cX7_isNamedAsOther 47 = .ok (.getfield 41, 3) := by decide +kernel
theorem dX7_isNamedAsOther_50 : decode cX7_isNamedAsOther 50 = .ok (.if_icmp .ge 56, 3) := by decide +kernel
theorem dX7_isNamedAsOther_53 : decode cX7_isNamedAsOther 53 = .ok (.iload_n 3, 1) := by decide +kernel
theorem dX7_isNamedAsOther_54 : decode cX7_isNamedAsOther 54 = .ok (.ifCond .ne 40, 3) := by decide +kernel
theorem dX7_isNamedAsOther_57 : decode cX7_isNamedAsOther 57 = .ok (.bipush 8, 2) := by decide +kernel
theorem dX7_isNamedAsOther_59 : decode cX7_isNamedAsOther 59 = .ok (.iload 4, 2) := by decide +kernel
theorem dX7_isNamedAsOther_61 : decode cX7_isNamedAsOther 61 = .ok (.iadd, 1) := by decide +kernel
theorem dX7_isNamedAsOther_62 : decode cX7_isNamedAsOther 62 = .ok (.iload_n 1, 1) := by decide +kernel
theorem dX7_isNamedAsOther_63 : decode cX7_isNamedAsOther 63 = .ok (.if_icmp .eq 35, 3) := by decide +kernel
theorem dX7_isNamedAsOther_66 : decode cX7_isNamedAsOther 66 = .ok (.aload_n 0, 1) := by decide +kernel
theorem dX7_isNamedAsOther_67 : decode cX7_isNamedAsOther 67 = .ok (.getfield 22, 3) := by decide +kernel
theorem dX7_isNamedAsOther_70 : decode cX7_isNamedAsOther 70 = .ok (.iload 4, 2) := by decide +kernel
theorem dX7_isNamedAsOther_72 : decode cX7_isNamedAsOther 72 = .ok (.aaload, 1) := by decide +kernel
theorem dX7_isNamedAsOther_73 : decode cX7_isNamedAsOther 73 = .ok (.aload_n 0, 1) := by decide +kernel
theorem dX7_isNamedAsOther_74 : decode cX7_isNamedAsOther 74 = .ok (.getfield 22, 3) := by decide +kernel
theorem dX7_isNamedAsOther_77 : decode cX7_isNamedAsOther 77 = .ok (.iload 4, 2) := by decide +kernel
theorem dX7_isNamedAsOther_79 : decode cX7_isNamedAsOther 79 = .ok (.aaload, 1) := by decide +kernel
theorem dX7_isNamedAsOther_80 : decode cX7_isNamedAsOther 80 = .ok (.getfield 56, 3) := by decide +kernel
theorem dX7_isNamedAsOther_83 : decode cX7_isNamedAsOther 83 = .ok (.aload_n 0, 1) := by decide +kernel
theorem dX7_isNamedAsOther_84 : decode cX7_isNamedAsOther 84 = .ok (.getfield 27, 3) := by decide +kernel
theorem dX7_isNamedAsOther_87 : decode cX7_isNamedAsOther 87 = .ok (.iload_n 2, 1) := by decide +kernel
theorem dX7_isNamedAsOther_88 : decode cX7_isNamedAsOther 88 = .ok (.invokevirtual 109, 3) := by decide +kernel
theorem dX7_isNamedAsOther_91 : decode cX7_isNamedAsOther 91 = .ok (.ifCond .eq 7, 3) := by decide +kernel
theorem dX7_isNamedAsOther_94 : decode cX7_isNamedAsOther 94 = .ok (.iconst 1, 1) := by decide +kernel
theorem dX7_isNamedAsOther_95 : decode cX7_isNamedAsOther 95 = .ok (.goto 4, 3) := by decide +kernel
theorem dX7_isNamedAsOther_98 : decode cX7_isNamedAsOther 98 = .ok (.iconst 0, 1) := by decide +kernel
theorem dX7_isNamedAsOther_99 : decode cX7_isNamedAsOther 99 = .ok (.istore_n 3, 1) := by decide +kernel
theorem dX7_isNamedAsOther_100 : decode cX7_isNamedAsOther 100 = .ok (.iinc 4 1, 3) := by decide +kernel
theorem dX7_isNamedAsOther_103 : decode cX7_isNamedAsOther 103 = .ok (.goto (-59), 3) := by decide +kernel
theorem dX7_isNamedAsOther_106 : decode cX7_isNamedAsOther 106 = .ok (.iload_n 3, 1) := by decide +kernel
theorem dX7_isNamedAsOther_107 : decode cX7_isNamedAsOther 107 = .ok (.ireturn, 1) := by decide +kernel
theorem rs_RX7_90 : mx_res RX7 90 = some (1, 198, 1) := by decide +kernel
theorem rs_RX7_94 : mx_res RX7 94 = some (0, 3, 1) := by decide +kernel
theorem rs_RX7_97 : mx_res RX7 97 = some (1, 94, 0) := by decide +kernel
theorem rs_RX7_101 : mx_res RX7 101 = some (1, 203, 1) := by decide +kernel
theorem mt_X7_change : mx_mt 202 = some (yX7_change, cX7_change, 7, (some .boolean)) := rfl
theorem dX7_change_0 : decode cX7_change 0 = .ok (.aload_n 0, 1) := by decide +kernel
theorem dX7_change_1 : decode cX7_change 1 = .ok (.iload_n 1, 1) := by decide +kernel
theorem dX7_change_2 : decode cX7_change 2 = .ok (.invokevirtual 90, 3) := by decide +kernel
theorem dX7_change_5 : decode cX7_change 5 = .ok (.astore 4, 2) := by decide +kernel
theorem dX7_change_7 : decode cX7_change 7 = .ok (.aload 4, 2) := by decide +kernel
theorem dX7_change_9 : decode cX7_change 9 = .ok (.ifnull 16, 3) := by decide +kernel
theorem dX7_change_12 : decode cX7_change 12 = .ok (.iload_n 2, 1) := by decide +kernel
theorem dX7_change_13 : decode cX7_change 13 = .ok (.ifCond .lt 12, 3) := by decide +kernel
theorem dX7_change_16 : decode cX7_change 16 = .ok (.iload_n 2, 1) := by decide +kernel
theorem dX7_change_17 : decode cX7_change 17 = .ok (.aload 4, 2) := by decide +kernel
theorem dX7_change_19 : decode cX7_change 19 = .ok (.getfield 94, 3) := by decide +kernel
theorem dX7_change_22 : decode cX7_change 22 = .ok (.if_icmp .lt 5, 3) := by decide +kernel
theorem dX7_change_25 : decode cX7_change 25 = .ok (.iconst 0, 1) := by decide +kernel
theorem dX7_change_26 : decode cX7_change 26 = .ok (.ireturn, 1) := by decide +kernel
theorem dX7_change_27 : decode cX7_change 27 = .ok (.aload 4, 2) := by decide +kernel
theorem dX7_change_29 : decode cX7_change 29 = .ok (.invokevirtual 97, 3) := by decide +kernel
theorem dX7_change_32 : decode cX7_change 32 = .ok (.astore 5, 2) := by decide +kernel
theorem dX7_change_34 : decode cX7_change 34 = .ok (.aload 5, 2) := by decide +kernel
theorem dX7_change_36 : decode cX7_change 36 = .ok (.iload_n 2, 1) := by decide +kernel
theorem dX7_change_37 : decode cX7_change 37 = .ok (.baload, 1) := by decide +kernel
theorem dX7_change_38 : decode cX7_change 38 = .ok (.istore 6, 2) := by decide +kernel
theorem dX7_change_40 : decode cX7_change 40 = .ok (.aload 5, 2) := by decide +kernel
theorem dX7_change_42 : decode cX7_change 42 = .ok (.iload_n 2, 1) := by decide +kernel
theorem dX7_change_43 : decode cX7_change 43 = .ok (.iload_n 3, 1) := by decide +kernel
theorem dX7_change_44 : decode cX7_change 44 = .ok (.i2b, 1) := by decide +kernel
theorem dX7_change_45 : decode cX7_change 45 = .ok (.bastore, 1) := by decide +kernel
theorem dX7_change_46 : decode cX7_change 46 = .ok (.aload_n 0, 1) := by decide +kernel
theorem dX7_change_47 : decode cX7_change 47 = .ok (.getfield 27, 3) := by decide +kernel
theorem dX7_change_50 : decode cX7_change 50 = .ok (.aload 5, 2) := by decide +kernel
theorem dX7_change_52 : decode cX7_change 52 = .ok (.aload 4, 2) := by decide +kernel
theorem dX7_change_54 : decode cX7_change 54 = .ok (.getfield 94, 3) := by decide +kernel
theorem dX7_change_57 : decode cX7_change 57 = .ok (.invokevirtual 52, 3) := by decide +kernel
theorem dX7_change_60 : decode cX7_change 60 = .ok (.iconst (-1), 1) := by decide +kernel
theorem dX7_change_61 : decode cX7_change 61 = .ok (.if_icmp .ne 11, 3) := by decide +kernel
theorem dX7_change_64 : decode cX7_change 64 = .ok (.aload_n 0, 1) := by decide +kernel
theorem dX7_change_65 : decode cX7_change 65 = .ok (.iload_n 1, 1) := by decide +kernel
theorem dX7_change_66 : decode cX7_change 66 = .ok (.invokevirtual 101, 3) := by decide +kernel
theorem dX7_change_69 : decode cX7_change 69 = .ok (.ifCond .eq 11, 3) := by decide +kernel
theorem dX7_change_72 : decode cX7_change 72 = .ok (.aload 5, 2) := by decide +kernel
theorem dX7_change_74 : decode cX7_change 74 = .ok (.iload_n 2, 1) := by decide +kernel
theorem dX7_change_75 : decode cX7_change 75 = .ok (.iload 6, 2) := by decide +kernel
theorem dX7_change_77 : decode cX7_change 77 = .ok (.bastore, 1) := by decide +kernel
theorem dX7_change_78 : decode cX7_change 78 = .ok (.iconst 0, 1) := by decide +kernel
theorem dX7_change_79 : decode cX7_change 79 = .ok (.ireturn, 1) := by decide +kernel
theorem dX7_change_80 : decode cX7_change 80 = .ok (.aload_n 0, 1) := by decide +kernel
theorem dX7_change_81 : decode cX7_change 81 = .ok (.iload_n 1, 1) := by decide +kernel
theorem dX7_change_82 : decode cX7_change 82 = .ok (.bipush 8, 2) := by decide +kernel
theorem dX7_change_84 : decode cX7_change 84 = .ok (.isub, 1) := by decide +kernel
theorem dX7_change_85 : decode cX7_change 85 = .ok (.invokevirtual 73, 3) := by decide +kernel
theorem dX7_change_88 : decode cX7_change 88 = .ok (.aload_n 0, 1) := by decide +kernel
theorem dX7_change_89 : decode cX7_change 89 = .ok (.invokevirtual 77, 3) := by decide +kernel
theorem dX7_change_92 : decode cX7_change 92 = .ok (.iconst 1, 1) := by decide +kernel
theorem dX7_change_93 : decode cX7_change 93 = .ok (.ireturn, 1) := by decide +kernel
theorem rs_RX12_154 : mx_res RX12 154 = some (1, 202, 3) := by decide +kernel
theorem mt_X12_patch : mx_mt 370 = some (yX12_patch, cX12_patch, 5, (some .boolean)) := rfl
theorem dX12_patch_0 : decode cX12_patch 0 = .ok (.aload_n 0, 1) := by decide +kernel
theorem dX12_patch_1 : decode cX12_patch 1 = .ok (.getfield 53, 3) := by decide +kernel
theorem dX12_patch_4 : decode cX12_patch 4 = .ok (.iload_n 1, 1) := by decide +kernel
theorem dX12_patch_5 : decode cX12_patch 5 = .ok (.iload_n 2, 1) := by decide +kernel
theorem dX12_patch_6 : decode cX12_patch 6 = .ok (.iload_n 3, 1) := by decide +kernel
theorem dX12_patch_7 : decode cX12_patch 7 = .ok (.invokevirtual 154, 3) := by decide +kernel
theorem dX12_patch_10 : decode cX12_patch 10 = .ok (.istore 4, 2) := by decide +kernel
theorem dX12_patch_12 : decode cX12_patch 12 = .ok (.iload 4, 2) := by decide +kernel
theorem dX12_patch_14 : decode cX12_patch 14 = .ok (.ifCond .eq 10, 3) := by decide +kernel
theorem dX12_patch_17 : decode cX12_patch 17 = .ok (.aload_n 0, 1) := by decide +kernel
theorem dX12_patch_18 : decode cX12_patch 18 = .ok (.getfield 69, 3) := by decide +kernel
theorem dX12_patch_21 : decode cX12_patch 21 = .ok (.invokevirtual 153, 3) := by decide +kernel
theorem dX12_patch_24 : decode cX12_patch 24 = .ok (.iload 4, 2) := by decide +kernel
theorem dX12_patch_26 : decode cX12_patch 26 = .ok (.ireturn, 1) := by decide +kernel
theorem mt_J7_rangeCheck_23922 : mx_mt 599 = some (yJ7_rangeCheck_23922, cJ7_rangeCheck_23922, 3, none) := rfl
theorem dJ7_rangeCheck_23922_0 : decode cJ7_rangeCheck_23922 0 = .ok (.iload_n 1, 1) := by decide +kernel
theorem dJ7_rangeCheck_23922_1 : decode cJ7_rangeCheck_23922 1 = .ok (.iload_n 2, 1) := by decide +kernel
theorem dJ7_rangeCheck_23922_2 : decode cJ7_rangeCheck_23922 2 = .ok (.if_icmp .le 44, 3) := by decide +kernel
theorem dJ7_rangeCheck_23922_5 : decode cJ7_rangeCheck_23922 5 = .ok (.new 43, 3) := by decide +kernel
theorem dJ7_rangeCheck_23922_46 : decode cJ7_rangeCheck_23922 46 = .ok (.iload_n 1, 1) := by decide +kernel
theorem dJ7_rangeCheck_23922_47 : decode cJ7_rangeCheck_23922 47 = .ok (.ifCond .ge 12, 3) := by decide +kernel
theorem dJ7_rangeCheck_23922_50 : decode cJ7_rangeCheck_23922 50 = .ok (.new 68, 3) := by decide +kernel
theorem dJ7_rangeCheck_23922_59 : decode cJ7_rangeCheck_23922 59 = .ok (.iload_n 2, 1) := by decide +kernel
theorem dJ7_rangeCheck_23922_60 : decode cJ7_rangeCheck_23922 60 = .ok (.iload_n 0, 1) := by decide +kernel
theorem dJ7_rangeCheck_23922_61 : decode cJ7_rangeCheck_23922 61 = .ok (.if_icmp .le 12, 3) := by decide +kernel
theorem dJ7_rangeCheck_23922_64 : decode cJ7_rangeCheck_23922 64 = .ok (.new 68, 3) := by decide +kernel
theorem dJ7_rangeCheck_23922_73 : decode cJ7_rangeCheck_23922 73 = .ok (.return_, 1) := by decide +kernel
theorem rs_RJ7_13 : mx_res RJ7 13 = some (2, 599, 3) := by decide +kernel
theorem mt_J7_fill_fda19 : mx_mt 601 = some (yJ7_fill_fda19, cJ7_fill_fda19, 5, none) := rfl
theorem dJ7_fill_fda19_0 : decode cJ7_fill_fda19 0 = .ok (.aload_n 0, 1) := by decide +kernel
theorem dJ7_fill_fda19_1 : decode cJ7_fill_fda19 1 = .ok (.arraylength, 1) := by decide +kernel
theorem dJ7_fill_fda19_2 : decode cJ7_fill_fda19 2 = .ok (.iload_n 1, 1) := by decide +kernel
theorem dJ7_fill_fda19_3 : decode cJ7_fill_fda19 3 = .ok (.iload_n 2, 1) := by decide +kernel
theorem dJ7_fill_fda19_4 : decode cJ7_fill_fda19 4 = .ok (.invokestatic 13, 3) := by decide +kernel
theorem dJ7_fill_fda19_7 : decode cJ7_fill_fda19 7 = .ok (.iload_n 1, 1) := by decide +kernel
theorem dJ7_fill_fda19_8 : decode cJ7_fill_fda19 8 = .ok (.istore 4, 2) := by decide +kernel
theorem dJ7_fill_fda19_10 : decode cJ7_fill_fda19 10 = .ok (.iload 4, 2) := by decide +kernel
theorem dJ7_fill_fda19_12 : decode cJ7_fill_fda19 12 = .ok (.iload_n 2, 1) := by decide +kernel
theorem dJ7_fill_fda19_13 : decode cJ7_fill_fda19 13 = .ok (.if_icmp .ge 14, 3) := by decide +kernel
theorem dJ7_fill_fda19_16 : decode cJ7_fill_fda19 16 = .ok (.aload_n 0, 1) := by decide +kernel
theorem dJ7_fill_fda19_17 : decode cJ7_fill_fda19 17 = .ok (.iload 4, 2) := by decide +kernel
theorem dJ7_fill_fda19_19 : decode cJ7_fill_fda19 19 = .ok (.iload_n 3, 1) := by decide +kernel
theorem dJ7_fill_fda19_20 : decode cJ7_fill_fda19 20 = .ok (.iastore, 1) := by decide +kernel
theorem dJ7_fill_fda19_21 : decode cJ7_fill_fda19 21 = .ok (.iinc 4 1, 3) := by decide +kernel
theorem dJ7_fill_fda19_24 : decode cJ7_fill_fda19 24 = .ok (.goto (-14), 3) := by decide +kernel
theorem dJ7_fill_fda19_27 : decode cJ7_fill_fda19 27 = .ok (.return_, 1) := by decide +kernel
theorem rs_RX5_100 : mx_res RX5 100 = some (2, 601, 4) := by decide +kernel
theorem mt_X5_make : mx_mt 173 = some (yX5_make, cX5_make, 3, (some .int)) := rfl
theorem dX5_make_0 : decode cX5_make 0 = .ok (.aload_n 0, 1) := by decide +kernel
theorem dX5_make_1 : decode cX5_make 1 = .ok (.getfield 60, 3) := by decide +kernel
theorem dX5_make_4 : decode cX5_make 4 = .ok (.sipush 2000, 3) := by decide +kernel
theorem dX5_make_7 : decode cX5_make 7 = .ok (.if_icmp .ge 19, 3) := by decide +kernel
theorem dX5_make_10 : decode cX5_make 10 = .ok (.iload_n 2, 1) := by decide +kernel
theorem dX5_make_11 : decode cX5_make 11 = .ok (.ifCond .lt 15, 3) := by decide +kernel
theorem dX5_make_14 : decode cX5_make 14 = .ok (.iload_n 2, 1) := by decide +kernel
theorem dX5_make_15 : decode cX5_make 15 = .ok (.sipush 20000, 3) := by decide +kernel
theorem dX5_make_18 : decode cX5_make 18 = .ok (.aload_n 0, 1) := by decide +kernel
theorem dX5_make_19 : decode cX5_make 19 = .ok (.getfield 63, 3) := by decide +kernel
theorem dX5_make_22 : decode cX5_make 22 = .ok (.isub, 1) := by decide +kernel
theorem dX5_make_23 : decode cX5_make 23 = .ok (.if_icmp .le 10, 3) := by decide +kernel
theorem dX5_make_26 : decode cX5_make 26 = .ok (.aload_n 0, 1) := by decide +kernel
theorem dX5_make_27 : decode cX5_make 27 = .ok (.iconst 4, 1) := by decide +kernel
theorem dX5_make_28 : decode cX5_make 28 = .ok (.putfield 54, 3) := by decide +kernel
theorem dX5_make_31 : decode cX5_make 31 = .ok (.iconst 0, 1) := by decide +kernel
theorem dX5_make_32 : decode cX5_make 32 = .ok (.ireturn, 1) := by decide +kernel
theorem dX5_make_33 : decode cX5_make 33 = .ok (.aload_n 0, 1) := by decide +kernel
theorem dX5_make_34 : decode cX5_make 34 = .ok (.dup, 1) := by decide +kernel
theorem dX5_make_35 : decode cX5_make 35 = .ok (.getfield 60, 3) := by decide +kernel
theorem dX5_make_38 : decode cX5_make 38 = .ok (.iconst 1, 1) := by decide +kernel
theorem dX5_make_39 : decode cX5_make 39 = .ok (.iadd, 1) := by decide +kernel
theorem dX5_make_40 : decode cX5_make 40 = .ok (.putfield 60, 3) := by decide +kernel
theorem dX5_make_43 : decode cX5_make 43 = .ok (.aload_n 0, 1) := by decide +kernel
theorem dX5_make_44 : decode cX5_make 44 = .ok (.getfield 17, 3) := by decide +kernel
theorem dX5_make_47 : decode cX5_make 47 = .ok (.aload_n 0, 1) := by decide +kernel
theorem dX5_make_48 : decode cX5_make 48 = .ok (.getfield 60, 3) := by decide +kernel
theorem dX5_make_51 : decode cX5_make 51 = .ok (.iload_n 1, 1) := by decide +kernel
theorem dX5_make_52 : decode cX5_make 52 = .ok (.iastore, 1) := by decide +kernel
theorem dX5_make_53 : decode cX5_make 53 = .ok (.aload_n 0, 1) := by decide +kernel
theorem dX5_make_54 : decode cX5_make 54 = .ok (.getfield 20, 3) := by decide +kernel
theorem dX5_make_57 : decode cX5_make 57 = .ok (.aload_n 0, 1) := by decide +kernel
theorem dX5_make_58 : decode cX5_make 58 = .ok (.getfield 60, 3) := by decide +kernel
theorem dX5_make_61 : decode cX5_make 61 = .ok (.aload_n 0, 1) := by decide +kernel
theorem dX5_make_62 : decode cX5_make 62 = .ok (.getfield 63, 3) := by decide +kernel
theorem dX5_make_65 : decode cX5_make 65 = .ok (.iastore, 1) := by decide +kernel
theorem dX5_make_66 : decode cX5_make 66 = .ok (.aload_n 0, 1) := by decide +kernel
theorem dX5_make_67 : decode cX5_make 67 = .ok (.getfield 23, 3) := by decide +kernel
theorem dX5_make_70 : decode cX5_make 70 = .ok (.aload_n 0, 1) := by decide +kernel
theorem dX5_make_71 : decode cX5_make 71 = .ok (.getfield 63, 3) := by decide +kernel
theorem dX5_make_74 : decode cX5_make 74 = .ok (.aload_n 0, 1) := by decide +kernel
theorem dX5_make_75 : decode cX5_make 75 = .ok (.getfield 63, 3) := by decide +kernel
theorem dX5_make_78 : decode cX5_make 78 = .ok (.iload_n 2, 1) := by decide +kernel
theorem dX5_make_79 : decode cX5_make 79 = .ok (.iadd, 1) := by decide +kernel
theorem dX5_make_80 : decode cX5_make 80 = .ok (.iconst 0, 1) := by decide +kernel
theorem dX5_make_81 : decode cX5_make 81 = .ok (.invokestatic 100, 3) := by decide +kernel
theorem dX5_make_84 : decode cX5_make 84 = .ok (.aload_n 0, 1) := by decide +kernel
theorem dX5_make_85 : decode cX5_make 85 = .ok (.dup, 1) := by decide +kernel
theorem dX5_make_86 : decode cX5_make 86 = .ok (.getfield 63, 3) := by decide +kernel
theorem dX5_make_89 : decode cX5_make 89 = .ok (.iload_n 2, 1) := by decide +kernel
theorem dX5_make_90 : decode cX5_make 90 = .ok (.iadd, 1) := by decide +kernel
theorem dX5_make_91 : decode cX5_make 91 = .ok (.putfield 63, 3) := by decide +kernel
theorem dX5_make_94 : decode cX5_make 94 = .ok (.aload_n 0, 1) := by decide +kernel
theorem dX5_make_95 : decode cX5_make 95 = .ok (.getfield 20, 3) := by decide +kernel
theorem dX5_make_98 : decode cX5_make 98 = .ok (.aload_n 0, 1) := by decide +kernel
theorem dX5_make_99 : decode cX5_make 99 = .ok (.getfield 60, 3) := by decide +kernel
theorem dX5_make_102 : decode cX5_make 102 = .ok (.iconst 1, 1) := by decide +kernel
theorem dX5_make_103 : decode cX5_make 103 = .ok (.iadd, 1) := by decide +kernel
theorem dX5_make_104 : decode cX5_make 104 = .ok (.aload_n 0, 1) := by decide +kernel
theorem dX5_make_105 : decode cX5_make 105 = .ok (.getfield 63, 3) := by decide +kernel
theorem dX5_make_108 : decode cX5_make 108 = .ok (.iastore, 1) := by decide +kernel
theorem dX5_make_109 : decode cX5_make 109 = .ok (.aload_n 0, 1) := by decide +kernel
theorem dX5_make_110 : decode cX5_make 110 = .ok (.getfield 60, 3) := by decide +kernel
theorem dX5_make_113 : decode cX5_make 113 = .ok (.ireturn, 1) := by decide +kernel
theorem mt_X11_isArithmetic : mx_mt 322 = some (yX11_isArithmetic, cX11_isArithmetic, 1, (some .boolean)) := rfl
theorem dX11_isArithmetic_0 : decode cX11_isArithmetic 0 = .ok (.iload_n 0, 1) := by decide +kernel
theorem dX11_isArithmetic_1 : decode cX11_isArithmetic 1 = .ok (.tableswitch 157 96 130 #[155, 157, 157, 157, 155, 157, 157, 157, 155, 157, 157, 157, 155, 157, 157, 157, 155, 157, 157, 157, 157, 157, 157, 157, 155, 157, 155, 157, 155, 157, 155, 157, 155, 157, 155], 155) := by decide +kernel
theorem dX11_isArithmetic_156 : decode cX11_isArithmetic 156 = .ok (.iconst 1, 1) := by decide +kernel
theorem dX11_isArithmetic_157 : decode cX11_isArithmetic 157 = .ok (.ireturn, 1) := by decide +kernel
theorem dX11_isArithmetic_158 : decode cX11_isArithmetic 158 = .ok (.iconst 0, 1) := by decide +kernel
theorem dX11_isArithmetic_159 : decode cX11_isArithmetic 159 = .ok (.ireturn, 1) := by decide +kernel
theorem mt_X11_isJump : mx_mt 321 = some (yX11_isJump, cX11_isJump, 1, (some .boolean)) := rfl
theorem dX11_isJump_0 : decode cX11_isJump 0 = .ok (.iload_n 0, 1) := by decide +kernel
theorem dX11_isJump_1 : decode cX11_isJump 1 = .ok (.sipush 153, 3) := by decide +kernel
theorem dX11_isJump_4 : decode cX11_isJump 4 = .ok (.if_icmp .eq 24, 3) := by decide +kernel
theorem dX11_isJump_7 : decode cX11_isJump 7 = .ok (.iload_n 0, 1) := by decide +kernel
theorem dX11_isJump_8 : decode cX11_isJump 8 = .ok (.sipush 154, 3) := by decide +kernel
theorem dX11_isJump_11 : decode cX11_isJump 11 = .ok (.if_icmp .eq 17, 3) := by decide +kernel
theorem dX11_isJump_14 : decode cX11_isJump 14 = .ok (.iload_n 0, 1) := by decide +kernel
theorem dX11_isJump_15 : decode cX11_isJump 15 = .ok (.sipush 159, 3) := by decide +kernel
theorem dX11_isJump_18 : decode cX11_isJump 18 = .ok (.if_icmp .lt 14, 3) := by decide +kernel
theorem dX11_isJump_21 : decode cX11_isJump 21 = .ok (.iload_n 0, 1) := by decide +kernel
theorem dX11_isJump_22 : decode cX11_isJump 22 = .ok (.sipush 167, 3) := by decide +kernel
theorem dX11_isJump_25 : decode cX11_isJump 25 = .ok (.if_icmp .gt 7, 3) := by decide +kernel
theorem dX11_isJump_28 : decode cX11_isJump 28 = .ok (.iconst 1, 1) := by decide +kernel
theorem dX11_isJump_29 : decode cX11_isJump 29 = .ok (.goto 4, 3) := by decide +kernel
theorem dX11_isJump_32 : decode cX11_isJump 32 = .ok (.iconst 0, 1) := by decide +kernel
theorem dX11_isJump_33 : decode cX11_isJump 33 = .ok (.ireturn, 1) := by decide +kernel
theorem mt_X5_goOn : mx_mt 154 = some (yX5_goOn, cX5_goOn, 2, none) := rfl
theorem dX5_goOn_0 : decode cX5_goOn 0 = .ok (.aload_n 0, 1) := by decide +kernel
theorem dX5_goOn_1 : decode cX5_goOn 1 = .ok (.getfield 29, 3) := by decide +kernel
theorem dX5_goOn_4 : decode cX5_goOn 4 = .ok (.aload_n 0, 1) := by decide +kernel
theorem dX5_goOn_5 : decode cX5_goOn 5 = .ok (.getfield 97, 3) := by decide +kernel
theorem dX5_goOn_8 : decode cX5_goOn 8 = .ok (.dup2, 1) := by decide +kernel
theorem dX5_goOn_9 : decode cX5_goOn 9 = .ok (.iaload, 1) := by decide +kernel
theorem dX5_goOn_10 : decode cX5_goOn 10 = .ok (.iload_n 1, 1) := by decide +kernel
theorem dX5_goOn_11 : decode cX5_goOn 11 = .ok (.iadd, 1) := by decide +kernel
theorem dX5_goOn_12 : decode cX5_goOn 12 = .ok (.iastore, 1) := by decide +kernel
theorem dX5_goOn_13 : decode cX5_goOn 13 = .ok (.return_, 1) := by decide +kernel
theorem mt_X5_push : mx_mt 152 = some (yX5_push, cX5_push, 3, none) := rfl
theorem dX5_push_0 : decode cX5_push 0 = .ok (.aload_n 0, 1) := by decide +kernel
theorem dX5_push_1 : decode cX5_push 1 = .ok (.getfield 32, 3) := by decide +kernel
theorem dX5_push_4 : decode cX5_push 4 = .ok (.aload_n 0, 1) := by decide +kernel
theorem dX5_push_5 : decode cX5_push 5 = .ok (.getfield 97, 3) := by decide +kernel
theorem dX5_push_8 : decode cX5_push 8 = .ok (.iaload, 1) := by decide +kernel
theorem dX5_push_9 : decode cX5_push 9 = .ok (.istore_n 2, 1) := by decide +kernel
theorem dX5_push_10 : decode cX5_push 10 = .ok (.iload_n 2, 1) := by decide +kernel
theorem dX5_push_11 : decode cX5_push 11 = .ok (.bipush 30, 2) := by decide +kernel
theorem dX5_push_13 : decode cX5_push 13 = .ok (.if_icmp .lt 10, 3) := by decide +kernel
theorem dX5_push_16 : decode cX5_push 16 = .ok (.aload_n 0, 1) := by decide +kernel
theorem dX5_push_17 : decode cX5_push 17 = .ok (.bipush 6, 2) := by decide +kernel
theorem dX5_push_19 : decode cX5_push 19 = .ok (.putfield 54, 3) := by decide +kernel
theorem dX5_push_22 : decode cX5_push 22 = .ok (.return_, 1) := by decide +kernel
theorem dX5_push_23 : decode cX5_push 23 = .ok (.aload_n 0, 1) := by decide +kernel
theorem dX5_push_24 : decode cX5_push 24 = .ok (.getfield 38, 3) := by decide +kernel
theorem dX5_push_27 : decode cX5_push 27 = .ok (.aload_n 0, 1) := by decide +kernel
theorem dX5_push_28 : decode cX5_push 28 = .ok (.getfield 97, 3) := by decide +kernel
theorem dX5_push_31 : decode cX5_push 31 = .ok (.bipush 30, 2) := by decide +kernel
theorem dX5_push_33 : decode cX5_push 33 = .ok (.imul, 1) := by decide +kernel
theorem dX5_push_34 : decode cX5_push 34 = .ok (.iload_n 2, 1) := by decide +kernel
theorem dX5_push_35 : decode cX5_push 35 = .ok (.iadd, 1) := by decide +kernel
theorem dX5_push_36 : decode cX5_push 36 = .ok (.iload_n 1, 1) := by decide +kernel
theorem dX5_push_37 : decode cX5_push 37 = .ok (.iastore, 1) := by decide +kernel
theorem dX5_push_38 : decode cX5_push 38 = .ok (.aload_n 0, 1) := by decide +kernel
theorem dX5_push_39 : decode cX5_push 39 = .ok (.getfield 32, 3) := by decide +kernel
theorem dX5_push_42 : decode cX5_push 42 = .ok (.aload_n 0, 1) := by decide +kernel
theorem dX5_push_43 : decode cX5_push 43 = .ok (.getfield 97, 3) := by decide +kernel
theorem dX5_push_46 : decode cX5_push 46 = .ok (.iload_n 2, 1) := by decide +kernel
theorem dX5_push_47 : decode cX5_push 47 = .ok (.iconst 1, 1) := by decide +kernel
theorem dX5_push_48 : decode cX5_push 48 = .ok (.iadd, 1) := by decide +kernel
theorem dX5_push_49 : decode cX5_push 49 = .ok (.iastore, 1) := by decide +kernel
theorem dX5_push_50 : decode cX5_push 50 = .ok (.return_, 1) := by decide +kernel
theorem rs_RX5_135 : mx_res RX5 135 = some (1, 152, 1) := by decide +kernel
theorem rs_RX5_138 : mx_res RX5 138 = some (1, 154, 1) := by decide +kernel
theorem mt_X5_give : mx_mt 155 = some (yX5_give, cX5_give, 3, none) := rfl
theorem dX5_give_0 : decode cX5_give 0 = .ok (.aload_n 0, 1) := by decide +kernel
theorem dX5_give_1 : decode cX5_give 1 = .ok (.iload_n 1, 1) := by decide +kernel
theorem dX5_give_2 : decode cX5_give 2 = .ok (.invokevirtual 135, 3) := by decide +kernel
theorem dX5_give_5 : decode cX5_give 5 = .ok (.aload_n 0, 1) := by decide +kernel
theorem dX5_give_6 : decode cX5_give 6 = .ok (.iload_n 2, 1) := by decide +kernel
theorem dX5_give_7 : decode cX5_give 7 = .ok (.invokevirtual 138, 3) := by decide +kernel
theorem dX5_give_10 : decode cX5_give 10 = .ok (.return_, 1) := by decide +kernel
theorem mt_X7_link : mx_mt 216 = some (yX7_link, cX7_link, 3, (some .int)) := rfl
theorem dX7_link_0 : decode cX7_link 0 = .ok (.iload_n 1, 1) := by decide +kernel
theorem dX7_link_1 : decode cX7_link 1 = .ok (.ifCond .lt 35, 3) := by decide +kernel
theorem dX7_link_4 : decode cX7_link 4 = .ok (.iload_n 1, 1) := by decide +kernel
theorem dX7_link_5 : decode cX7_link 5 = .ok (.bipush 8, 2) := by decide +kernel
theorem dX7_link_7 : decode cX7_link 7 = .ok (.if_icmp .ge 29, 3) := by decide +kernel
theorem dX7_link_10 : decode cX7_link 10 = .ok (.iload_n 2, 1) := by decide +kernel
theorem dX7_link_11 : decode cX7_link 11 = .ok (.ifCond .lt 25, 3) := by decide +kernel
theorem dX7_link_14 : decode cX7_link 14 = .ok (.iload_n 2, 1) := by decide +kernel
theorem dX7_link_15 : decode cX7_link 15 = .ok (.sipush 256, 3) := by decide +kernel
theorem dX7_link_18 : decode cX7_link 18 = .ok (.if_icmp .ge 18, 3) := by decide +kernel
theorem dX7_link_21 : decode cX7_link 21 = .ok (.aload_n 0, 1) := by decide +kernel
theorem dX7_link_22 : decode cX7_link 22 = .ok (.getfield 31, 3) := by decide +kernel
theorem dX7_link_25 : decode cX7_link 25 = .ok (.iload_n 1, 1) := by decide +kernel
theorem dX7_link_26 : decode cX7_link 26 = .ok (.sipush 256, 3) := by decide +kernel
theorem dX7_link_29 : decode cX7_link 29 = .ok (.imul, 1) := by decide +kernel
theorem dX7_link_30 : decode cX7_link 30 = .ok (.iload_n 2, 1) := by decide +kernel
theorem dX7_link_31 : decode cX7_link 31 = .ok (.iadd, 1) := by decide +kernel
theorem dX7_link_32 : decode cX7_link 32 = .ok (.iaload, 1) := by decide +kernel
theorem dX7_link_33 : decode cX7_link 33 = .ok (.goto 4, 3) := by decide +kernel
theorem dX7_link_36 : decode cX7_link 36 = .ok (.iconst (-1), 1) := by decide +kernel
theorem dX7_link_37 : decode cX7_link 37 = .ok (.ireturn, 1) := by decide +kernel
theorem rs_RX5_132 : mx_res RX5 132 = some (1, 216, 2) := by decide +kernel
theorem mt_X5_link : mx_mt 151 = some (yX5_link, cX5_link, 2, (some .int)) := rfl
theorem dX5_link_0 : decode cX5_link 0 = .ok (.aload_n 0, 1) := by decide +kernel
theorem dX5_link_1 : decode cX5_link 1 = .ok (.getfield 41, 3) := by decide +kernel
theorem dX5_link_4 : decode cX5_link 4 = .ok (.aload_n 0, 1) := by decide +kernel
theorem dX5_link_5 : decode cX5_link 5 = .ok (.getfield 26, 3) := by decide +kernel
theorem dX5_link_8 : decode cX5_link 8 = .ok (.aload_n 0, 1) := by decide +kernel
theorem dX5_link_9 : decode cX5_link 9 = .ok (.getfield 97, 3) := by decide +kernel
theorem dX5_link_12 : decode cX5_link 12 = .ok (.iaload, 1) := by decide +kernel
theorem dX5_link_13 : decode cX5_link 13 = .ok (.bipush 12, 2) := by decide +kernel
theorem dX5_link_15 : decode cX5_link 15 = .ok (.idiv, 1) := by decide +kernel
theorem dX5_link_16 : decode cX5_link 16 = .ok (.iload_n 1, 1) := by decide +kernel
theorem dX5_link_17 : decode cX5_link 17 = .ok (.invokevirtual 132, 3) := by decide +kernel
theorem dX5_link_20 : decode cX5_link 20 = .ok (.ireturn, 1) := by decide +kernel
theorem mt_X5_pop : mx_mt 153 = some (yX5_pop, cX5_pop, 2, (some .int)) := rfl
theorem dX5_pop_0 : decode cX5_pop 0 = .ok (.aload_n 0, 1) := by decide +kernel
theorem dX5_pop_1 : decode cX5_pop 1 = .ok (.getfield 32, 3) := by decide +kernel
theorem dX5_pop_4 : decode cX5_pop 4 = .ok (.aload_n 0, 1) := by decide +kernel
theorem dX5_pop_5 : decode cX5_pop 5 = .ok (.getfield 97, 3) := by decide +kernel
theorem dX5_pop_8 : decode cX5_pop 8 = .ok (.iaload, 1) := by decide +kernel
theorem dX5_pop_9 : decode cX5_pop 9 = .ok (.iconst 1, 1) := by decide +kernel
theorem dX5_pop_10 : decode cX5_pop 10 = .ok (.isub, 1) := by decide +kernel
theorem dX5_pop_11 : decode cX5_pop 11 = .ok (.istore_n 1, 1) := by decide +kernel
theorem dX5_pop_12 : decode cX5_pop 12 = .ok (.iload_n 1, 1) := by decide +kernel
theorem dX5_pop_13 : decode cX5_pop 13 = .ok (.ifCond .ge 11, 3) := by decide +kernel
theorem dX5_pop_16 : decode cX5_pop 16 = .ok (.aload_n 0, 1) := by decide +kernel
theorem dX5_pop_17 : decode cX5_pop 17 = .ok (.bipush 6, 2) := by decide +kernel
theorem dX5_pop_19 : decode cX5_pop 19 = .ok (.putfield 54, 3) := by decide +kernel
theorem dX5_pop_22 : decode cX5_pop 22 = .ok (.iconst 0, 1) := by decide +kernel
theorem dX5_pop_23 : decode cX5_pop 23 = .ok (.ireturn, 1) := by decide +kernel
theorem dX5_pop_24 : decode cX5_pop 24 = .ok (.aload_n 0, 1) := by decide +kernel
theorem dX5_pop_25 : decode cX5_pop 25 = .ok (.getfield 32, 3) := by decide +kernel
theorem dX5_pop_28 : decode cX5_pop 28 = .ok (.aload_n 0, 1) := by decide +kernel
theorem dX5_pop_29 : decode cX5_pop 29 = .ok (.getfield 97, 3) := by decide +kernel
theorem dX5_pop_32 : decode cX5_pop 32 = .ok (.iload_n 1, 1) := by decide +kernel
theorem dX5_pop_33 : decode cX5_pop 33 = .ok (.iastore, 1) := by decide +kernel
theorem dX5_pop_34 : decode cX5_pop 34 = .ok (.aload_n 0, 1) := by decide +kernel
theorem dX5_pop_35 : decode cX5_pop 35 = .ok (.getfield 38, 3) := by decide +kernel
theorem dX5_pop_38 : decode cX5_pop 38 = .ok (.aload_n 0, 1) := by decide +kernel
theorem dX5_pop_39 : decode cX5_pop 39 = .ok (.getfield 97, 3) := by decide +kernel
theorem dX5_pop_42 : decode cX5_pop 42 = .ok (.bipush 30, 2) := by decide +kernel
theorem dX5_pop_44 : decode cX5_pop 44 = .ok (.imul, 1) := by decide +kernel
theorem dX5_pop_45 : decode cX5_pop 45 = .ok (.iload_n 1, 1) := by decide +kernel
theorem dX5_pop_46 : decode cX5_pop 46 = .ok (.iadd, 1) := by decide +kernel
theorem dX5_pop_47 : decode cX5_pop 47 = .ok (.iaload, 1) := by decide +kernel
theorem dX5_pop_48 : decode cX5_pop 48 = .ok (.ireturn, 1) := by decide +kernel
theorem mt_X5_computed : mx_mt 159 = some (yX5_computed, cX5_computed, 3, (some .int)) := rfl
theorem dX5_computed_0 : decode cX5_computed 0 = .ok (.iload_n 0, 1) := by decide +kernel
theorem dX5_computed_1 : decode cX5_computed 1 = .ok (.tableswitch 203 96 128 #[147, 203, 203, 203, 151, 203, 203, 203, 155, 203, 203, 203, 159, 203, 203, 203, 171, 203, 203, 203, 203, 203, 203, 203, 183, 203, 187, 203, 191, 203, 195, 203, 199], 147) := by decide +kernel
theorem dX5_computed_148 : decode cX5_computed 148 = .ok (.iload_n 1, 1) := by decide +kernel
theorem dX5_computed_149 : decode cX5_computed 149 = .ok (.iload_n 2, 1) := by decide +kernel
theorem dX5_computed_150 : decode cX5_computed 150 = .ok (.iadd, 1) := by decide +kernel
theorem dX5_computed_151 : decode cX5_computed 151 = .ok (.ireturn, 1) := by decide +kernel
theorem dX5_computed_152 : decode cX5_computed 152 = .ok (.iload_n 1, 1) := by decide +kernel
theorem dX5_computed_153 : decode cX5_computed 153 = .ok (.iload_n 2, 1) := by decide +kernel
theorem dX5_computed_154 : decode cX5_computed 154 = .ok (.isub, 1) := by decide +kernel
theorem dX5_computed_155 : decode cX5_computed 155 = .ok (.ireturn, 1) := by decide +kernel
theorem dX5_computed_156 : decode cX5_computed 156 = .ok (.iload_n 1, 1) := by decide +kernel
theorem dX5_computed_157 : decode cX5_computed 157 = .ok (.iload_n 2, 1) := by decide +kernel
theorem dX5_computed_158 : decode cX5_computed 158 = .ok (.imul, 1) := by decide +kernel
theorem dX5_computed_159 : decode cX5_computed 159 = .ok (.ireturn, 1) := by decide +kernel
theorem dX5_computed_160 : decode cX5_computed 160 = .ok (.iload_n 2, 1) := by decide +kernel
theorem dX5_computed_161 : decode cX5_computed 161 = .ok (.ifCond .ne 7, 3) := by decide +kernel
theorem dX5_computed_164 : decode cX5_computed 164 = .ok (.iconst 0, 1) := by decide +kernel
theorem dX5_computed_165 : decode cX5_computed 165 = .ok (.goto 6, 3) := by decide +kernel
theorem dX5_computed_168 : decode cX5_computed 168 = .ok (.iload_n 1, 1) := by decide +kernel
theorem dX5_computed_169 : decode cX5_computed 169 = .ok (.iload_n 2, 1) := by decide +kernel
theorem dX5_computed_170 : decode cX5_computed 170 = .ok (.idiv, 1) := by decide +kernel
theorem dX5_computed_171 : decode cX5_computed 171 = .ok (.ireturn, 1) := by decide +kernel
theorem dX5_computed_172 : decode cX5_computed 172 = .ok (.iload_n 2, 1) := by decide +kernel
theorem dX5_computed_173 : decode cX5_computed 173 = .ok (.ifCond .ne 7, 3) := by decide +kernel
theorem dX5_computed_176 : decode cX5_computed 176 = .ok (.iconst 0, 1) := by decide +kernel
theorem dX5_computed_177 : decode cX5_computed 177 = .ok (.goto 6, 3) := by decide +kernel
theorem dX5_computed_180 : decode cX5_computed 180 = .ok (.iload_n 1, 1) := by decide +kernel
theorem dX5_computed_181 : decode cX5_computed 181 = .ok (.iload_n 2, 1) := by decide +kernel
theorem dX5_computed_182 : decode cX5_computed 182 = .ok (.irem, 1) := by decide +kernel
theorem dX5_computed_183 : decode cX5_computed 183 = .ok (.ireturn, 1) := by decide +kernel
theorem dX5_computed_184 : decode cX5_computed 184 = .ok (.iload_n 1, 1) := by decide +kernel
theorem dX5_computed_185 : decode cX5_computed 185 = .ok (.iload_n 2, 1) := by decide +kernel
theorem dX5_computed_186 : decode cX5_computed 186 = .ok (.ishl, 1) := by decide +kernel
theorem dX5_computed_187 : decode cX5_computed 187 = .ok (.ireturn, 1) := by decide +kernel
theorem dX5_computed_188 : decode cX5_computed 188 = .ok (.iload_n 1, 1) := by decide +kernel
theorem dX5_computed_189 : decode cX5_computed 189 = .ok (.iload_n 2, 1) := by decide +kernel
theorem dX5_computed_190 : decode cX5_computed 190 = .ok (.ishr, 1) := by decide +kernel
theorem dX5_computed_191 : decode cX5_computed 191 = .ok (.ireturn, 1) := by decide +kernel
theorem dX5_computed_192 : decode cX5_computed 192 = .ok (.iload_n 1, 1) := by decide +kernel
theorem dX5_computed_193 : decode cX5_computed 193 = .ok (.iload_n 2, 1) := by decide +kernel
theorem dX5_computed_194 : decode cX5_computed 194 = .ok (.iushr, 1) := by decide +kernel
theorem dX5_computed_195 : decode cX5_computed 195 = .ok (.ireturn, 1) := by decide +kernel
theorem dX5_computed_196 : decode cX5_computed 196 = .ok (.iload_n 1, 1) := by decide +kernel
theorem dX5_computed_197 : decode cX5_computed 197 = .ok (.iload_n 2, 1) := by decide +kernel
theorem dX5_computed_198 : decode cX5_computed 198 = .ok (.iand, 1) := by decide +kernel
theorem dX5_computed_199 : decode cX5_computed 199 = .ok (.ireturn, 1) := by decide +kernel
theorem dX5_computed_200 : decode cX5_computed 200 = .ok (.iload_n 1, 1) := by decide +kernel
theorem dX5_computed_201 : decode cX5_computed 201 = .ok (.iload_n 2, 1) := by decide +kernel
theorem dX5_computed_202 : decode cX5_computed 202 = .ok (.ior, 1) := by decide +kernel
theorem dX5_computed_203 : decode cX5_computed 203 = .ok (.ireturn, 1) := by decide +kernel
theorem dX5_computed_204 : decode cX5_computed 204 = .ok (.iload_n 1, 1) := by decide +kernel
theorem dX5_computed_205 : decode cX5_computed 205 = .ok (.iload_n 2, 1) := by decide +kernel
theorem dX5_computed_206 : decode cX5_computed 206 = .ok (.ixor, 1) := by decide +kernel
theorem dX5_computed_207 : decode cX5_computed 207 = .ok (.ireturn, 1) := by decide +kernel
