abbrev cX5_forget : ByteArray := prog_7_method_2_code
def yX5_forget : MethodName := ⟨RX5, "forget", "()V"⟩
abbrev cX5_tell : ByteArray := prog_7_method_5_code
def yX5_tell : MethodName := ⟨RX5, "tell", "(I)I"⟩
abbrev cX5_tellTop : ByteArray := prog_7_method_6_code
def yX5_tellTop : MethodName := ⟨RX5, "tellTop", "(I)I"⟩
abbrev cX5_printedAt : ByteArray := prog_7_method_7_code
def yX5_printedAt : MethodName := ⟨RX5, "printedAt", "(I)I"⟩
abbrev cX7_forget : ByteArray := prog_9_method_2_code
def yX7_forget : MethodName := ⟨RX7, "forget", "()V"⟩
abbrev cX12_clear : ByteArray := prog_1_method_13_code
def yX12_clear : MethodName := ⟨RX12, "clear", "()V"⟩
abbrev cX12_look : ByteArray := prog_1_method_18_code
def yX12_look : MethodName := ⟨RX12, "look", "(I)I"⟩
abbrev cX12_out : ByteArray := prog_1_method_19_code
def yX12_out : MethodName := ⟨RX12, "out", "(I)I"⟩
abbrev cX13_out : ByteArray := prog_15_method_222_code
def yX13_out : MethodName := ⟨RX13, "out", "(I)I"⟩
theorem dX5_forget_0 : decode cX5_forget 0 = .ok (.aload_n 0, 1) := by decide +kernel
theorem dX5_forget_1 : decode cX5_forget 1 = .ok (.iconst 0, 1) := by decide +kernel
theorem dX5_forget_2 : decode cX5_forget 2 = .ok (.putfield 54, 3) := by decide +kernel
theorem dX5_forget_5 : decode cX5_forget 5 = .ok (.aload_n 0, 1) := by decide +kernel
theorem dX5_forget_6 : decode cX5_forget 6 = .ok (.iconst (-1), 1) := by decide +kernel
theorem dX5_forget_7 : decode cX5_forget 7 = .ok (.putfield 50, 3) := by decide +kernel
theorem dX5_forget_10 : decode cX5_forget 10 = .ok (.aload_n 0, 1) := by decide +kernel
theorem dX5_forget_11 : decode cX5_forget 11 = .ok (.iconst 0, 1) := by decide +kernel
theorem dX5_forget_12 : decode cX5_forget 12 = .ok (.putfield 57, 3) := by decide +kernel
theorem dX5_forget_15 : decode cX5_forget 15 = .ok (.aload_n 0, 1) := by decide +kernel
theorem dX5_forget_16 : decode cX5_forget 16 = .ok (.iconst 0, 1) := by decide +kernel
theorem dX5_forget_17 : decode cX5_forget 17 = .ok (.putfield 60, 3) := by decide +kernel
theorem dX5_forget_20 : decode cX5_forget 20 = .ok (.aload_n 0, 1) := by decide +kernel
theorem dX5_forget_21 : decode cX5_forget 21 = .ok (.iconst 0, 1) := by decide +kernel
theorem dX5_forget_22 : decode cX5_forget 22 = .ok (.putfield 63, 3) := by decide +kernel
theorem dX5_forget_25 : decode cX5_forget 25 = .ok (.aload_n 0, 1) := by decide +kernel
theorem dX5_forget_26 : decode cX5_forget 26 = .ok (.iconst 0, 1) := by decide +kernel
theorem dX5_forget_27 : decode cX5_forget 27 = .ok (.putfield 66, 3) := by decide +kernel
theorem dX5_forget_30 : decode cX5_forget 30 = .ok (.aload_n 0, 1) := by decide +kernel
theorem dX5_forget_31 : decode cX5_forget 31 = .ok (.iconst 0, 1) := by decide +kernel
theorem dX5_forget_32 : decode cX5_forget 32 = .ok (.putfield 69, 3) := by decide +kernel
theorem dX5_forget_35 : decode cX5_forget 35 = .ok (.return_, 1) := by decide +kernel
theorem dX5_tell_0 : decode cX5_tell 0 = .ok (.iload_n 1, 1) := by decide +kernel
theorem dX5_tell_1 : decode cX5_tell 1 = .ok (.tableswitch 78 0 6 #[43, 48, 53, 58, 63, 68, 73], 43) := by decide +kernel
theorem dX5_tell_44 : decode cX5_tell 44 = .ok (.aload_n 0, 1) := by decide +kernel
theorem dX5_tell_45 : decode cX5_tell 45 = .ok (.getfield 54, 3) := by decide +kernel
theorem dX5_tell_48 : decode cX5_tell 48 = .ok (.ireturn, 1) := by decide +kernel
theorem dX5_tell_49 : decode cX5_tell 49 = .ok (.aload_n 0, 1) := by decide +kernel
theorem dX5_tell_50 : decode cX5_tell 50 = .ok (.getfield 50, 3) := by decide +kernel
theorem dX5_tell_53 : decode cX5_tell 53 = .ok (.ireturn, 1) := by decide +kernel
theorem dX5_tell_54 : decode cX5_tell 54 = .ok (.aload_n 0, 1) := by decide +kernel
theorem dX5_tell_55 : decode cX5_tell 55 = .ok (.getfield 57, 3) := by decide +kernel
theorem dX5_tell_58 : decode cX5_tell 58 = .ok (.ireturn, 1) := by decide +kernel
theorem dX5_tell_59 : decode cX5_tell 59 = .ok (.aload_n 0, 1) := by decide +kernel
theorem dX5_tell_60 : decode cX5_tell 60 = .ok (.getfield 60, 3) := by decide +kernel
theorem dX5_tell_63 : decode cX5_tell 63 = .ok (.ireturn, 1) := by decide +kernel
theorem dX5_tell_64 : decode cX5_tell 64 = .ok (.aload_n 0, 1) := by decide +kernel
theorem dX5_tell_65 : decode cX5_tell 65 = .ok (.getfield 63, 3) := by decide +kernel
theorem dX5_tell_68 : decode cX5_tell 68 = .ok (.ireturn, 1) := by decide +kernel
theorem dX5_tell_69 : decode cX5_tell 69 = .ok (.aload_n 0, 1) := by decide +kernel
theorem dX5_tell_70 : decode cX5_tell 70 = .ok (.getfield 66, 3) := by decide +kernel
theorem dX5_tell_73 : decode cX5_tell 73 = .ok (.ireturn, 1) := by decide +kernel
theorem dX5_tell_74 : decode cX5_tell 74 = .ok (.aload_n 0, 1) := by decide +kernel
theorem dX5_tell_75 : decode cX5_tell 75 = .ok (.getfield 69, 3) := by decide +kernel
theorem dX5_tell_78 : decode cX5_tell 78 = .ok (.ireturn, 1) := by decide +kernel
theorem dX5_tell_79 : decode cX5_tell 79 = .ok (.iconst (-1), 1) := by decide +kernel
theorem dX5_tell_80 : decode cX5_tell 80 = .ok (.ireturn, 1) := by decide +kernel
theorem dX5_tellTop_0 : decode cX5_tellTop 0 = .ok (.aload_n 0, 1) := by decide +kernel
theorem dX5_tellTop_1 : decode cX5_tellTop 1 = .ok (.getfield 54, 3) := by decide +kernel
theorem dX5_tellTop_4 : decode cX5_tellTop 4 = .ok (.iconst 1, 1) := by decide +kernel
theorem dX5_tellTop_5 : decode cX5_tellTop 5 = .ok (.if_icmp .eq 5, 3) := by decide +kernel
theorem dX5_tellTop_8 : decode cX5_tellTop 8 = .ok (.iconst (-1), 1) := by decide +kernel
theorem dX5_tellTop_9 : decode cX5_tellTop 9 = .ok (.ireturn, 1) := by decide +kernel
theorem dX5_tellTop_10 : decode cX5_tellTop 10 = .ok (.iload_n 1, 1) := by decide +kernel
theorem dX5_tellTop_11 : decode cX5_tellTop 11 = .ok (.tableswitch 78 7 10 #[29, 45, 58, 68], 29) := by decide +kernel
theorem dX5_tellTop_40 : decode cX5_tellTop 40 = .ok (.bipush 8, 2) := by decide +kernel
theorem dX5_tellTop_42 : decode cX5_tellTop 42 = .ok (.aload_n 0, 1) := by decide +kernel
theorem dX5_tellTop_43 : decode cX5_tellTop 43 = .ok (.getfield 26, 3) := by decide +kernel
theorem dX5_tellTop_46 : decode cX5_tellTop 46 = .ok (.aload_n 0, 1) := by decide +kernel
theorem dX5_tellTop_47 : decode cX5_tellTop 47 = .ok (.getfield 97, 3) := by decide +kernel
theorem dX5_tellTop_50 : decode cX5_tellTop 50 = .ok (.iaload, 1) := by decide +kernel
theorem dX5_tellTop_51 : decode cX5_tellTop 51 = .ok (.bipush 12, 2) := by decide +kernel
theorem dX5_tellTop_53 : decode cX5_tellTop 53 = .ok (.idiv, 1) := by decide +kernel
theorem dX5_tellTop_54 : decode cX5_tellTop 54 = .ok (.iadd, 1) := by decide +kernel
theorem dX5_tellTop_55 : decode cX5_tellTop 55 = .ok (.ireturn, 1) := by decide +kernel
theorem dX5_tellTop_56 : decode cX5_tellTop 56 = .ok (.aload_n 0, 1) := by decide +kernel
theorem dX5_tellTop_57 : decode cX5_tellTop 57 = .ok (.getfield 26, 3) := by decide +kernel
theorem dX5_tellTop_60 : decode cX5_tellTop 60 = .ok (.aload_n 0, 1) := by decide +kernel
theorem dX5_tellTop_61 : decode cX5_tellTop 61 = .ok (.getfield 97, 3) := by decide +kernel
theorem dX5_tellTop_64 : decode cX5_tellTop 64 = .ok (.iaload, 1) := by decide +kernel
theorem dX5_tellTop_65 : decode cX5_tellTop 65 = .ok (.bipush 12, 2) := by decide +kernel
theorem dX5_tellTop_67 : decode cX5_tellTop 67 = .ok (.irem, 1) := by decide +kernel
theorem dX5_tellTop_68 : decode cX5_tellTop 68 = .ok (.ireturn, 1) := by decide +kernel
theorem dX5_tellTop_69 : decode cX5_tellTop 69 = .ok (.aload_n 0, 1) := by decide +kernel
theorem dX5_tellTop_70 : decode cX5_tellTop 70 = .ok (.getfield 29, 3) := by decide +kernel
theorem dX5_tellTop_73 : decode cX5_tellTop 73 = .ok (.aload_n 0, 1) := by decide +kernel
theorem dX5_tellTop_74 : decode cX5_tellTop 74 = .ok (.getfield 97, 3) := by decide +kernel
theorem dX5_tellTop_77 : decode cX5_tellTop 77 = .ok (.iaload, 1) := by decide +kernel
theorem dX5_tellTop_78 : decode cX5_tellTop 78 = .ok (.ireturn, 1) := by decide +kernel
theorem dX5_tellTop_79 : decode cX5_tellTop 79 = .ok (.aload_n 0, 1) := by decide +kernel
theorem dX5_tellTop_80 : decode cX5_tellTop 80 = .ok (.getfield 32, 3) := by decide +kernel
theorem dX5_tellTop_83 : decode cX5_tellTop 83 = .ok (.aload_n 0, 1) := by decide +kernel
theorem dX5_tellTop_84 : decode cX5_tellTop 84 = .ok (.getfield 97, 3) := by decide +kernel
theorem dX5_tellTop_87 : decode cX5_tellTop 87 = .ok (.iaload, 1) := by decide +kernel
theorem dX5_tellTop_88 : decode cX5_tellTop 88 = .ok (.ireturn, 1) := by decide +kernel
theorem dX5_tellTop_89 : decode cX5_tellTop 89 = .ok (.iconst (-1), 1) := by decide +kernel
theorem dX5_tellTop_90 : decode cX5_tellTop 90 = .ok (.ireturn, 1) := by decide +kernel
theorem dX5_printedAt_0 : decode cX5_printedAt 0 = .ok (.iload_n 1, 1) := by decide +kernel
theorem dX5_printedAt_1 : decode cX5_printedAt 1 = .ok (.ifCond .lt 27, 3) := by decide +kernel
theorem dX5_printedAt_4 : decode cX5_printedAt 4 = .ok (.iload_n 1, 1) := by decide +kernel
theorem dX5_printedAt_5 : decode cX5_printedAt 5 = .ok (.aload_n 0, 1) := by decide +kernel
theorem dX5_printedAt_6 : decode cX5_printedAt 6 = .ok (.getfield 69, 3) := by decide +kernel
theorem dX5_printedAt_9 : decode cX5_printedAt 9 = .ok (.if_icmp .ge 19, 3) := by decide +kernel
theorem dX5_printedAt_12 : decode cX5_printedAt 12 = .ok (.iload_n 1, 1) := by decide +kernel
theorem dX5_printedAt_13 : decode cX5_printedAt 13 = .ok (.sipush 1000, 3) := by decide +kernel
theorem dX5_printedAt_16 : decode cX5_printedAt 16 = .ok (.if_icmp .ge 12, 3) := by decide +kernel
theorem dX5_printedAt_19 : decode cX5_printedAt 19 = .ok (.aload_n 0, 1) := by decide +kernel
theorem dX5_printedAt_20 : decode cX5_printedAt 20 = .ok (.getfield 13, 3) := by decide +kernel
theorem dX5_printedAt_23 : decode cX5_printedAt 23 = .ok (.iload_n 1, 1) := by decide +kernel
theorem dX5_printedAt_24 : decode cX5_printedAt 24 = .ok (.iaload, 1) := by decide +kernel
theorem dX5_printedAt_25 : decode cX5_printedAt 25 = .ok (.goto 4, 3) := by decide +kernel
theorem dX5_printedAt_28 : decode cX5_printedAt 28 = .ok (.iconst 0, 1) := by decide +kernel
theorem dX5_printedAt_29 : decode cX5_printedAt 29 = .ok (.ireturn, 1) := by decide +kernel
theorem dX7_forget_0 : decode cX7_forget 0 = .ok (.aload_n 0, 1) := by decide +kernel
theorem dX7_forget_1 : decode cX7_forget 1 = .ok (.iconst 0, 1) := by decide +kernel
theorem dX7_forget_2 : decode cX7_forget 2 = .ok (.putfield 41, 3) := by decide +kernel
theorem dX7_forget_5 : decode cX7_forget 5 = .ok (.aload_n 0, 1) := by decide +kernel
theorem dX7_forget_6 : decode cX7_forget 6 = .ok (.iconst 0, 1) := by decide +kernel
theorem dX7_forget_7 : decode cX7_forget 7 = .ok (.putfield 45, 3) := by decide +kernel
theorem dX7_forget_10 : decode cX7_forget 10 = .ok (.aload_n 0, 1) := by decide +kernel
theorem dX7_forget_11 : decode cX7_forget 11 = .ok (.getfield 16, 3) := by decide +kernel
theorem dX7_forget_14 : decode cX7_forget 14 = .ok (.invokevirtual 49, 3) := by decide +kernel
theorem dX7_forget_17 : decode cX7_forget 17 = .ok (.return_, 1) := by decide +kernel
theorem dX12_clear_0 : decode cX12_clear 0 = .ok (.aload_n 0, 1) := by decide +kernel
theorem dX12_clear_1 : decode cX12_clear 1 = .ok (.getfield 53, 3) := by decide +kernel
theorem dX12_clear_4 : decode cX12_clear 4 = .ok (.invokevirtual 158, 3) := by decide +kernel
theorem dX12_clear_7 : decode cX12_clear 7 = .ok (.aload_n 0, 1) := by decide +kernel
theorem dX12_clear_8 : decode cX12_clear 8 = .ok (.getfield 69, 3) := by decide +kernel
theorem dX12_clear_11 : decode cX12_clear 11 = .ok (.invokevirtual 153, 3) := by decide +kernel
theorem dX12_clear_14 : decode cX12_clear 14 = .ok (.return_, 1) := by decide +kernel
theorem dX12_look_0 : decode cX12_look 0 = .ok (.iload_n 1, 1) := by decide +kernel
theorem dX12_look_1 : decode cX12_look 1 = .ok (.tableswitch 56 11 13 #[27, 35, 51], 27) := by decide +kernel
theorem dX12_look_28 : decode cX12_look 28 = .ok (.aload_n 0, 1) := by decide +kernel
theorem dX12_look_29 : decode cX12_look 29 = .ok (.getfield 53, 3) := by decide +kernel
theorem dX12_look_32 : decode cX12_look 32 = .ok (.getfield 199, 3) := by decide +kernel
theorem dX12_look_35 : decode cX12_look 35 = .ok (.ireturn, 1) := by decide +kernel
theorem dX12_look_36 : decode cX12_look 36 = .ok (.aload_n 0, 1) := by decide +kernel
theorem dX12_look_37 : decode cX12_look 37 = .ok (.getfield 53, 3) := by decide +kernel
theorem dX12_look_40 : decode cX12_look 40 = .ok (.getfield 165, 3) := by decide +kernel
theorem dX12_look_43 : decode cX12_look 43 = .ok (.ifCond .eq 7, 3) := by decide +kernel
theorem dX12_look_46 : decode cX12_look 46 = .ok (.iconst 1, 1) := by decide +kernel
theorem dX12_look_47 : decode cX12_look 47 = .ok (.goto 4, 3) := by decide +kernel
theorem dX12_look_50 : decode cX12_look 50 = .ok (.iconst 0, 1) := by decide +kernel
theorem dX12_look_51 : decode cX12_look 51 = .ok (.ireturn, 1) := by decide +kernel
theorem dX12_look_52 : decode cX12_look 52 = .ok (.aload_n 0, 1) := by decide +kernel
theorem dX12_look_53 : decode cX12_look 53 = .ok (.getfield 73, 3) := by decide +kernel
theorem dX12_look_56 : decode cX12_look 56 = .ok (.ireturn, 1) := by decide +kernel
theorem dX12_look_57 : decode cX12_look 57 = .ok (.iload_n 1, 1) := by decide +kernel
theorem dX12_look_58 : decode cX12_look 58 = .ok (.bipush 7, 2) := by decide +kernel
theorem dX12_look_60 : decode cX12_look 60 = .ok (.if_icmp .lt 20, 3) := by decide +kernel
theorem dX12_look_63 : decode cX12_look 63 = .ok (.iload_n 1, 1) := by decide +kernel
theorem dX12_look_64 : decode cX12_look 64 = .ok (.bipush 10, 2) := by decide +kernel
theorem dX12_look_66 : decode cX12_look 66 = .ok (.if_icmp .gt 14, 3) := by decide +kernel
theorem dX12_look_69 : decode cX12_look 69 = .ok (.aload_n 0, 1) := by decide +kernel
theorem dX12_look_70 : decode cX12_look 70 = .ok (.getfield 69, 3) := by decide +kernel
theorem dX12_look_73 : decode cX12_look 73 = .ok (.iload_n 1, 1) := by decide +kernel
theorem dX12_look_74 : decode cX12_look 74 = .ok (.invokevirtual 202, 3) := by decide +kernel
theorem dX12_look_77 : decode cX12_look 77 = .ok (.goto 11, 3) := by decide +kernel
theorem dX12_look_80 : decode cX12_look 80 = .ok (.aload_n 0, 1) := by decide +kernel
theorem dX12_look_81 : decode cX12_look 81 = .ok (.getfield 69, 3) := by decide +kernel
theorem dX12_look_84 : decode cX12_look 84 = .ok (.iload_n 1, 1) := by decide +kernel
theorem dX12_look_85 : decode cX12_look 85 = .ok (.invokevirtual 205, 3) := by decide +kernel
theorem dX12_look_88 : decode cX12_look 88 = .ok (.ireturn, 1) := by decide +kernel
theorem dX12_out_0 : decode cX12_out 0 = .ok (.aload_n 0, 1) := by decide +kernel
theorem dX12_out_1 : decode cX12_out 1 = .ok (.getfield 69, 3) := by decide +kernel
theorem dX12_out_4 : decode cX12_out 4 = .ok (.iload_n 1, 1) := by decide +kernel
theorem dX12_out_5 : decode cX12_out 5 = .ok (.invokevirtual 208, 3) := by decide +kernel
theorem dX12_out_8 : decode cX12_out 8 = .ok (.ireturn, 1) := by decide +kernel
theorem dX13_out_0 : decode cX13_out 0 = .ok (.aload_n 0, 1) := by decide +kernel
theorem dX13_out_1 : decode cX13_out 1 = .ok (.getfield 858, 3) := by decide +kernel
theorem dX13_out_4 : decode cX13_out 4 = .ok (.ifCond .le 31, 3) := by decide +kernel
theorem dX13_out_7 : decode cX13_out 7 = .ok (.iload_n 1, 1) := by decide +kernel
theorem dX13_out_8 : decode cX13_out 8 = .ok (.ifCond .lt 27, 3) := by decide +kernel
theorem dX13_out_11 : decode cX13_out 11 = .ok (.iload_n 1, 1) := by decide +kernel
theorem dX13_out_12 : decode cX13_out 12 = .ok (.aload_n 0, 1) := by decide +kernel
theorem dX13_out_13 : decode cX13_out 13 = .ok (.getfield 1055, 3) := by decide +kernel
theorem dX13_out_16 : decode cX13_out 16 = .ok (.if_icmp .ge 19, 3) := by decide +kernel
theorem dX13_out_19 : decode cX13_out 19 = .ok (.iload_n 1, 1) := by decide +kernel
theorem dX13_out_20 : decode cX13_out 20 = .ok (.sipush 1000, 3) := by decide +kernel
theorem dX13_out_23 : decode cX13_out 23 = .ok (.if_icmp .ge 12, 3) := by decide +kernel
theorem dX13_out_26 : decode cX13_out 26 = .ok (.aload_n 0, 1) := by decide +kernel
theorem dX13_out_27 : decode cX13_out 27 = .ok (.getfield 291, 3) := by decide +kernel
theorem dX13_out_30 : decode cX13_out 30 = .ok (.iload_n 1, 1) := by decide +kernel
theorem dX13_out_31 : decode cX13_out 31 = .ok (.iaload, 1) := by decide +kernel
theorem dX13_out_32 : decode cX13_out 32 = .ok (.goto 4, 3) := by decide +kernel
theorem dX13_out_35 : decode cX13_out 35 = .ok (.iconst 0, 1) := by decide +kernel
theorem dX13_out_36 : decode cX13_out 36 = .ok (.ireturn, 1) := by decide +kernel
def VS_g2_p0 : List Cond := [Cond.fieldLink RX5 54 "ClassMill$Machine" "state" "I", Cond.fieldLink RX5 50 "ClassMill$Machine" "gave" "I", Cond.fieldLink RX5 57 "ClassMill$Machine" "steps" "I", Cond.fieldLink RX5 60 "ClassMill$Machine" "objects" "I", Cond.fieldLink RX5 63 "ClassMill$Machine" "cells" "I", Cond.fieldLink RX5 66 "ClassMill$Machine" "depth" "I", Cond.fieldLink RX5 69 "ClassMill$Machine" "prints" "I", Cond.fieldLink RX5 26 "ClassMill$Machine" "methods" "[I", Cond.fieldLink RX5 97 "ClassMill$Machine" "top" "I", Cond.fieldLink RX5 29 "ClassMill$Machine" "places" "[I", Cond.fieldLink RX5 32 "ClassMill$Machine" "heights" "[I", Cond.fieldLink RX5 13 "ClassMill$Machine" "printed" "[I", Cond.code yX5_printedAt cX5_printedAt 2 (some .int), Cond.methodLink RX12 208 yX5_printedAt, Cond.instanceMethod yX5_printedAt, Cond.selects RX5 yX5_printedAt yX5_printedAt, Cond.initialized RX5, Cond.fieldLink RX12 69 "ClassMill" "machine" "LClassMill$Machine;", Cond.code yX5_tell cX5_tell 2 (some .int), Cond.methodLink RX12 205 yX5_tell, Cond.instanceMethod yX5_tell, Cond.selects RX5 yX5_tell yX5_tell, Cond.code yX5_tellTop cX5_tellTop 2 (some .int), Cond.methodLink RX12 202 yX5_tellTop, Cond.instanceMethod yX5_tellTop, Cond.selects RX5 yX5_tellTop yX5_tellTop, Cond.fieldLink RX12 53 "ClassMill" "space" "LClassMill$Space;", Cond.fieldLink RX12 199 "ClassMill$Space" "count" "I", Cond.fieldLink RX12 165 "ClassMill$Space" "verified" "Z", Cond.fieldLink RX12 73 "ClassMill" "taped" "I", Cond.methodLink RX7 49 yX4_forget, Cond.instanceMethod yX4_forget, Cond.selects RX4 yX4_forget yX4_forget, Cond.initialized RX4, Cond.fieldLink RX7 41 "ClassMill$Space" "count" "I", Cond.fieldLink RX7 45 "ClassMill$Space" "verified" "Z", Cond.fieldLink RX7 16 "ClassMill$Space" "kin" "LClassMill$Kin;", Cond.code yX7_forget cX7_forget 1 none, Cond.methodLink RX12 158 yX7_forget, Cond.instanceMethod yX7_forget]
def VS_g2_p1 : List Cond := [Cond.selects RX7 yX7_forget yX7_forget, Cond.initialized RX7, Cond.code yX5_forget cX5_forget 1 none, Cond.methodLink RX12 153 yX5_forget, Cond.instanceMethod yX5_forget, Cond.selects RX5 yX5_forget yX5_forget, Cond.fieldLink RX13 858 "ClassMillModel" "state" "I", Cond.fieldLink RX13 1055 "ClassMillModel" "printedMany" "I", Cond.fieldLink RX13 291 "ClassMillModel" "printed" "[I"]
def VS_g2 : List Cond := VS_g2_p0 ++ (VS_g2_p1 ++ (wsX50 ++ (wsX120 ++ (wsX70 ++ (wsX4_forget ++ (wsX130))))))
theorem mw_g2_0 : Cond.fieldLink RX5 54 "ClassMill$Machine" "state" "I" ∈ VS_g2 := List.mem_append_left _ (List.mem_of_getElem? (i := 0) rfl)
theorem mw_g2_1 : Cond.fieldLink RX5 50 "ClassMill$Machine" "gave" "I" ∈ VS_g2 := List.mem_append_left _ (List.mem_of_getElem? (i := 1) rfl)
theorem mw_g2_2 : Cond.fieldLink RX5 57 "ClassMill$Machine" "steps" "I" ∈ VS_g2 := List.mem_append_left _ (List.mem_of_getElem? (i := 2) rfl)
theorem mw_g2_3 : Cond.fieldLink RX5 60 "ClassMill$Machine" "objects" "I" ∈ VS_g2 := List.mem_append_left _ (List.mem_of_getElem? (i := 3) rfl)
theorem mw_g2_4 : Cond.fieldLink RX5 63 "ClassMill$Machine" "cells" "I" ∈ VS_g2 := List.mem_append_left _ (List.mem_of_getElem? (i := 4) rfl)
theorem mw_g2_5 : Cond.fieldLink RX5 66 "ClassMill$Machine" "depth" "I" ∈ VS_g2 := List.mem_append_left _ (List.mem_of_getElem? (i := 5) rfl)
theorem mw_g2_6 : Cond.fieldLink RX5 69 "ClassMill$Machine" "prints" "I" ∈ VS_g2 := List.mem_append_left _ (List.mem_of_getElem? (i := 6) rfl)
theorem mw_g2_7 : Cond.fieldLink RX5 26 "ClassMill$Machine" "methods" "[I" ∈ VS_g2 := List.mem_append_left _ (List.mem_of_getElem? (i := 7) rfl)
theorem mw_g2_8 : Cond.fieldLink RX5 97 "ClassMill$Machine" "top" "I" ∈ VS_g2 := List.mem_append_left _ (List.mem_of_getElem? (i := 8) rfl)
theorem mw_g2_9 : Cond.fieldLink RX5 29 "ClassMill$Machine" "places" "[I" ∈ VS_g2 := List.mem_append_left _ (List.mem_of_getElem? (i := 9) rfl)
theorem mw_g2_10 : Cond.fieldLink RX5 32 "ClassMill$Machine" "heights" "[I" ∈ VS_g2 := List.mem_append_left _ (List.mem_of_getElem? (i := 10) rfl)
theorem mw_g2_11 : Cond.fieldLink RX5 13 "ClassMill$Machine" "printed" "[I" ∈ VS_g2 := List.mem_append_left _ (List.mem_of_getElem? (i := 11) rfl)
theorem mw_g2_12 : Cond.code yX5_printedAt cX5_printedAt 2 (some .int) ∈ VS_g2 := List.mem_append_left _ (List.mem_of_getElem? (i := 12) rfl)
theorem mw_g2_13 : Cond.methodLink RX12 208 yX5_printedAt ∈ VS_g2 := List.mem_append_left _ (List.mem_of_getElem? (i := 13) rfl)
theorem mw_g2_14 : Cond.instanceMethod yX5_printedAt ∈ VS_g2 := List.mem_append_left _ (List.mem_of_getElem? (i := 14) rfl)
theorem mw_g2_15 : Cond.selects RX5 yX5_printedAt yX5_printedAt ∈ VS_g2 := List.mem_append_left _ (List.mem_of_getElem? (i := 15) rfl)
theorem mw_g2_16 : Cond.initialized RX5 ∈ VS_g2 := List.mem_append_left _ (List.mem_of_getElem? (i := 16) rfl)
theorem mw_g2_17 : Cond.fieldLink RX12 69 "ClassMill" "machine" "LClassMill$Machine;" ∈ VS_g2 := List.mem_append_left _ (List.mem_of_getElem? (i := 17) rfl)
theorem mw_g2_18 : Cond.code yX5_tell cX5_tell 2 (some .int) ∈ VS_g2 := List.mem_append_left _ (List.mem_of_getElem? (i := 18) rfl)
theorem mw_g2_19 : Cond.methodLink RX12 205 yX5_tell ∈ VS_g2 := List.mem_append_left _ (List.mem_of_getElem? (i := 19) rfl)
theorem mw_g2_20 : Cond.instanceMethod yX5_tell ∈ VS_g2 := List.mem_append_left _ (List.mem_of_getElem? (i := 20) rfl)
theorem mw_g2_21 : Cond.selects RX5 yX5_tell yX5_tell ∈ VS_g2 := List.mem_append_left _ (List.mem_of_getElem? (i := 21) rfl)
theorem mw_g2_22 : Cond.code yX5_tellTop cX5_tellTop 2 (some .int) ∈ VS_g2 := List.mem_append_left _ (List.mem_of_getElem? (i := 22) rfl)
theorem mw_g2_23 : Cond.methodLink RX12 202 yX5_tellTop ∈ VS_g2 := List.mem_append_left _ (List.mem_of_getElem? (i := 23) rfl)
theorem mw_g2_24 : Cond.instanceMethod yX5_tellTop ∈ VS_g2 := List.mem_append_left _ (List.mem_of_getElem? (i := 24) rfl)
theorem mw_g2_25 : Cond.selects RX5 yX5_tellTop yX5_tellTop ∈ VS_g2 := List.mem_append_left _ (List.mem_of_getElem? (i := 25) rfl)
theorem mw_g2_26 : Cond.fieldLink RX12 53 "ClassMill" "space" "LClassMill$Space;" ∈ VS_g2 := List.mem_append_left _ (List.mem_of_getElem? (i := 26) rfl)
theorem mw_g2_27 : Cond.fieldLink RX12 199 "ClassMill$Space" "count" "I" ∈ VS_g2 := List.mem_append_left _ (List.mem_of_getElem? (i := 27) rfl)
theorem mw_g2_28 : Cond.fieldLink RX12 165 "ClassMill$Space" "verified" "Z" ∈ VS_g2 := List.mem_append_left _ (List.mem_of_getElem? (i := 28) rfl)
theorem mw_g2_29 : Cond.fieldLink RX12 73 "ClassMill" "taped" "I" ∈ VS_g2 := List.mem_append_left _ (List.mem_of_getElem? (i := 29) rfl)
theorem mw_g2_30 : Cond.methodLink RX7 49 yX4_forget ∈ VS_g2 := List.mem_append_left _ (List.mem_of_getElem? (i := 30) rfl)
theorem mw_g2_31 : Cond.instanceMethod yX4_forget ∈ VS_g2 := List.mem_append_left _ (List.mem_of_getElem? (i := 31) rfl)
theorem mw_g2_32 : Cond.selects RX4 yX4_forget yX4_forget ∈ VS_g2 := List.mem_append_left _ (List.mem_of_getElem? (i := 32) rfl)
theorem mw_g2_33 : Cond.initialized RX4 ∈ VS_g2 := List.mem_append_left _ (List.mem_of_getElem? (i := 33) rfl)
theorem mw_g2_34 : Cond.fieldLink RX7 41 "ClassMill$Space" "count" "I" ∈ VS_g2 := List.mem_append_left _ (List.mem_of_getElem? (i := 34) rfl)
theorem mw_g2_35 : Cond.fieldLink RX7 45 "ClassMill$Space" "verified" "Z" ∈ VS_g2 := List.mem_append_left _ (List.mem_of_getElem? (i := 35) rfl)
theorem mw_g2_36 : Cond.fieldLink RX7 16 "ClassMill$Space" "kin" "LClassMill$Kin;" ∈ VS_g2 := List.mem_append_left _ (List.mem_of_getElem? (i := 36) rfl)
theorem mw_g2_37 : Cond.code yX7_forget cX7_forget 1 none ∈ VS_g2 := List.mem_append_left _ (List.mem_of_getElem? (i := 37) rfl)
theorem mw_g2_38 : Cond.methodLink RX12 158 yX7_forget ∈ VS_g2 := List.mem_append_left _ (List.mem_of_getElem? (i := 38) rfl)
theorem mw_g2_39 : Cond.instanceMethod yX7_forget ∈ VS_g2 := List.mem_append_left _ (List.mem_of_getElem? (i := 39) rfl)
theorem mw_g2_40 : Cond.selects RX7 yX7_forget yX7_forget ∈ VS_g2 := List.mem_append_right _ (List.mem_append_left _ (List.mem_of_getElem? (i := 0) rfl))
theorem mw_g2_41 : Cond.initialized RX7 ∈ VS_g2 := List.mem_append_right _ (List.mem_append_left _ (List.mem_of_getElem? (i := 1) rfl))
theorem mw_g2_42 : Cond.code yX5_forget cX5_forget 1 none ∈ VS_g2 := List.mem_append_right _ (List.mem_append_left _ (List.mem_of_getElem? (i := 2) rfl))
theorem mw_g2_43 : Cond.methodLink RX12 153 yX5_forget ∈ VS_g2 := List.mem_append_right _ (List.mem_append_left _ (List.mem_of_getElem? (i := 3) rfl))
theorem mw_g2_44 : Cond.instanceMethod yX5_forget ∈ VS_g2 := List.mem_append_right _ (List.mem_append_left _ (List.mem_of_getElem? (i := 4) rfl))
theorem mw_g2_45 : Cond.selects RX5 yX5_forget yX5_forget ∈ VS_g2 := List.mem_append_right _ (List.mem_append_left _ (List.mem_of_getElem? (i := 5) rfl))
theorem mw_g2_46 : Cond.fieldLink RX13 858 "ClassMillModel" "state" "I" ∈ VS_g2 := List.mem_append_right _ (List.mem_append_left _ (List.mem_of_getElem? (i := 6) rfl))
theorem mw_g2_47 : Cond.fieldLink RX13 1055 "ClassMillModel" "printedMany" "I" ∈ VS_g2 := List.mem_append_right _ (List.mem_append_left _ (List.mem_of_getElem? (i := 7) rfl))
theorem mw_g2_48 : Cond.fieldLink RX13 291 "ClassMillModel" "printed" "[I" ∈ VS_g2 := List.mem_append_right _ (List.mem_append_left _ (List.mem_of_getElem? (i := 8) rfl))
theorem uV_g2_X5 : ∀ w ∈ u_ws RX5 TX5 21, w ∈ VS_g2 := fun w h => List.mem_append_right _ (List.mem_append_right _ (List.mem_append_left _ (h)))
theorem uV_g2_X12 : ∀ w ∈ u_ws RX12 TX12 11, w ∈ VS_g2 := fun w h => List.mem_append_right _ (List.mem_append_right _ (List.mem_append_right _ (List.mem_append_left _ (h))))
theorem uV_g2_X7 : ∀ w ∈ u_ws RX7 TX7 8, w ∈ VS_g2 := fun w h => List.mem_append_right _ (List.mem_append_right _ (List.mem_append_right _ (List.mem_append_right _ (List.mem_append_left _ (h)))))
theorem uV_g2_X13 : ∀ w ∈ u_ws RX13 TX13 155, w ∈ VS_g2 := fun w h => List.mem_append_right _ (List.mem_append_right _ (List.mem_append_right _ (List.mem_append_right _ (List.mem_append_right _ (List.mem_append_right _ (h))))))
set_option maxRecDepth 100000 in
theorem gs_g2 : GoodIn VS_g2 VS_g2 := vs_self (by decide +kernel)
set_option maxRecDepth 100000 in
theorem in_g2_wsX4_forget : GoodIn VS_g2 wsX4_forget := goodIn_sub (fun w h => List.mem_append_right _ (List.mem_append_right _ (List.mem_append_right _ (List.mem_append_right _ (List.mem_append_right _ (List.mem_append_left _ (h))))))) (by decide +kernel)
theorem gv_g2_0 : GoodIn VS_g2 (wsV RX12 208 RX5 yX5_printedAt (.code yX5_printedAt cX5_printedAt 2 (some .int) :: VS_g2)) := goodIn_app (vs_in4 mw_g2_13 mw_g2_14 mw_g2_15 mw_g2_16 (by decide +kernel)) (vs_cons mw_g2_12 (by decide +kernel) gs_g2)
theorem gv_g2_1 : GoodIn VS_g2 (wsV RX12 205 RX5 yX5_tell (.code yX5_tell cX5_tell 2 (some .int) :: VS_g2)) := goodIn_app (vs_in4 mw_g2_19 mw_g2_20 mw_g2_21 mw_g2_16 (by decide +kernel)) (vs_cons mw_g2_18 (by decide +kernel) gs_g2)
theorem gv_g2_2 : GoodIn VS_g2 (wsV RX12 202 RX5 yX5_tellTop (.code yX5_tellTop cX5_tellTop 2 (some .int) :: VS_g2)) := goodIn_app (vs_in4 mw_g2_23 mw_g2_24 mw_g2_25 mw_g2_16 (by decide +kernel)) (vs_cons mw_g2_22 (by decide +kernel) gs_g2)
theorem gv_g2_3 : GoodIn VS_g2 (wsV RX7 49 RX4 yX4_forget wsX4_forget) := goodIn_app (vs_in4 mw_g2_30 mw_g2_31 mw_g2_32 mw_g2_33 (by decide +kernel)) (in_g2_wsX4_forget)
theorem gv_g2_4 : GoodIn VS_g2 (wsV RX12 158 RX7 yX7_forget (.code yX7_forget cX7_forget 1 none :: VS_g2)) := goodIn_app (vs_in4 mw_g2_38 mw_g2_39 mw_g2_40 mw_g2_41 (by decide +kernel)) (vs_cons mw_g2_37 (by decide +kernel) gs_g2)
theorem gv_g2_5 : GoodIn VS_g2 (wsV RX12 153 RX5 yX5_forget (.code yX5_forget cX5_forget 1 none :: VS_g2)) := goodIn_app (vs_in4 mw_g2_43 mw_g2_44 mw_g2_45 mw_g2_16 (by decide +kernel)) (vs_cons mw_g2_42 (by decide +kernel) gs_g2)
