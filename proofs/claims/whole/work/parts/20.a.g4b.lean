abbrev cX8_readProgram : ByteArray := prog_10_method_2_code
def yX8_readProgram : MethodName := ⟨RX8, "readProgram", "()V"⟩
abbrev cX8_readClass : ByteArray := prog_10_method_6_code
def yX8_readClass : MethodName := ⟨RX8, "readClass", "()V"⟩
abbrev cX8_readMember : ByteArray := prog_10_method_7_code
def yX8_readMember : MethodName := ⟨RX8, "readMember", "()V"⟩
abbrev cX8_readBlock : ByteArray := prog_10_method_10_code
def yX8_readBlock : MethodName := ⟨RX8, "readBlock", "(I)V"⟩
abbrev cX8_readStatement : ByteArray := prog_10_method_11_code
def yX8_readStatement : MethodName := ⟨RX8, "readStatement", "(I)V"⟩
abbrev cX8_readVariable : ByteArray := prog_10_method_12_code
def yX8_readVariable : MethodName := ⟨RX8, "readVariable", "(I)V"⟩
abbrev cX8_readCondition : ByteArray := prog_10_method_13_code
def yX8_readCondition : MethodName := ⟨RX8, "readCondition", "(I)V"⟩
abbrev cX8_readTry : ByteArray := prog_10_method_14_code
def yX8_readTry : MethodName := ⟨RX8, "readTry", "(I)V"⟩
abbrev cX8_readPlain : ByteArray := prog_10_method_15_code
def yX8_readPlain : MethodName := ⟨RX8, "readPlain", "(I)V"⟩
abbrev cX8_readValue : ByteArray := prog_10_method_16_code
def yX8_readValue : MethodName := ⟨RX8, "readValue", "(I)V"⟩
abbrev cX8_readUnary : ByteArray := prog_10_method_18_code
def yX8_readUnary : MethodName := ⟨RX8, "readUnary", "(I)V"⟩
abbrev cX8_readPrimary : ByteArray := prog_10_method_19_code
def yX8_readPrimary : MethodName := ⟨RX8, "readPrimary", "(I)V"⟩
abbrev cX8_readBehind : ByteArray := prog_10_method_20_code
def yX8_readBehind : MethodName := ⟨RX8, "readBehind", "(I)V"⟩
abbrev cX8_readNew : ByteArray := prog_10_method_21_code
def yX8_readNew : MethodName := ⟨RX8, "readNew", "(I)V"⟩
abbrev cX8_readArguments : ByteArray := prog_10_method_22_code
def yX8_readArguments : MethodName := ⟨RX8, "readArguments", "(I)V"⟩
abbrev cX11_hasTwins : ByteArray := prog_13_method_8_code
def yX11_hasTwins : MethodName := ⟨RX11, "hasTwins", "()Z"⟩
theorem dX8_readProgram_0 : decode cX8_readProgram 0 = .ok (.iconst 0, 1) := by decide +kernel
theorem dX8_readProgram_1 : decode cX8_readProgram 1 = .ok (.istore_n 1, 1) := by decide +kernel
theorem dX8_readProgram_2 : decode cX8_readProgram 2 = .ok (.iload_n 1, 1) := by decide +kernel
theorem dX8_readProgram_3 : decode cX8_readProgram 3 = .ok (.sipush 3000, 3) := by decide +kernel
theorem dX8_readProgram_6 : decode cX8_readProgram 6 = .ok (.if_icmp .ge 37, 3) := by decide +kernel
theorem dX8_readProgram_9 : decode cX8_readProgram 9 = .ok (.aload_n 0, 1) := by decide +kernel
theorem dX8_readProgram_10 : decode cX8_readProgram 10 = .ok (.getfield 7, 3) := by decide +kernel
theorem dX8_readProgram_13 : decode cX8_readProgram 13 = .ok (.getfield 19, 3) := by decide +kernel
theorem dX8_readProgram_16 : decode cX8_readProgram 16 = .ok (.ifCond .ne 27, 3) := by decide +kernel
theorem dX8_readProgram_19 : decode cX8_readProgram 19 = .ok (.iload_n 1, 1) := by decide +kernel
theorem dX8_readProgram_20 : decode cX8_readProgram 20 = .ok (.ifCond .eq 13, 3) := by decide +kernel
theorem dX8_readProgram_23 : decode cX8_readProgram 23 = .ok (.aload_n 0, 1) := by decide +kernel
theorem dX8_readProgram_24 : decode cX8_readProgram 24 = .ok (.getfield 7, 3) := by decide +kernel
theorem dX8_readProgram_27 : decode cX8_readProgram 27 = .ok (.invokevirtual 23, 3) := by decide +kernel
theorem dX8_readProgram_30 : decode cX8_readProgram 30 = .ok (.ifCond .eq 13, 3) := by decide +kernel
theorem dX8_readProgram_33 : decode cX8_readProgram 33 = .ok (.aload_n 0, 1) := by decide +kernel
theorem dX8_readProgram_34 : decode cX8_readProgram 34 = .ok (.invokevirtual 27, 3) := by decide +kernel
theorem dX8_readProgram_37 : decode cX8_readProgram 37 = .ok (.iinc 1 1, 3) := by decide +kernel
theorem dX8_readProgram_40 : decode cX8_readProgram 40 = .ok (.goto (-38), 3) := by decide +kernel
theorem dX8_readProgram_43 : decode cX8_readProgram 43 = .ok (.return_, 1) := by decide +kernel
theorem dX8_readClass_0 : decode cX8_readClass 0 = .ok (.aload_n 0, 1) := by decide +kernel
theorem dX8_readClass_1 : decode cX8_readClass 1 = .ok (.bipush 13, 2) := by decide +kernel
theorem dX8_readClass_3 : decode cX8_readClass 3 = .ok (.invokevirtual 37, 3) := by decide +kernel
theorem dX8_readClass_6 : decode cX8_readClass 6 = .ok (.aload_n 0, 1) := by decide +kernel
theorem dX8_readClass_7 : decode cX8_readClass 7 = .ok (.getfield 13, 3) := by decide +kernel
theorem dX8_readClass_10 : decode cX8_readClass 10 = .ok (.aload_n 0, 1) := by decide +kernel
theorem dX8_readClass_11 : decode cX8_readClass 11 = .ok (.getfield 7, 3) := by decide +kernel
theorem dX8_readClass_14 : decode cX8_readClass 14 = .ok (.getfield 30, 3) := by decide +kernel
theorem dX8_readClass_17 : decode cX8_readClass 17 = .ok (.invokevirtual 40, 3) := by decide +kernel
theorem dX8_readClass_20 : decode cX8_readClass 20 = .ok (.aload_n 0, 1) := by decide +kernel
theorem dX8_readClass_21 : decode cX8_readClass 21 = .ok (.iconst 2, 1) := by decide +kernel
theorem dX8_readClass_22 : decode cX8_readClass 22 = .ok (.invokevirtual 37, 3) := by decide +kernel
theorem dX8_readClass_25 : decode cX8_readClass 25 = .ok (.aload_n 0, 1) := by decide +kernel
theorem dX8_readClass_26 : decode cX8_readClass 26 = .ok (.bipush 16, 2) := by decide +kernel
theorem dX8_readClass_28 : decode cX8_readClass 28 = .ok (.invokevirtual 45, 3) := by decide +kernel
theorem dX8_readClass_31 : decode cX8_readClass 31 = .ok (.ifCond .eq 8, 3) := by decide +kernel
theorem dX8_readClass_34 : decode cX8_readClass 34 = .ok (.aload_n 0, 1) := by decide +kernel
theorem dX8_readClass_35 : decode cX8_readClass 35 = .ok (.iconst 2, 1) := by decide +kernel
theorem dX8_readClass_36 : decode cX8_readClass 36 = .ok (.invokevirtual 37, 3) := by decide +kernel
theorem dX8_readClass_39 : decode cX8_readClass 39 = .ok (.aload_n 0, 1) := by decide +kernel
theorem dX8_readClass_40 : decode cX8_readClass 40 = .ok (.bipush 42, 2) := by decide +kernel
theorem dX8_readClass_42 : decode cX8_readClass 42 = .ok (.invokevirtual 37, 3) := by decide +kernel
theorem dX8_readClass_45 : decode cX8_readClass 45 = .ok (.iconst 0, 1) := by decide +kernel
theorem dX8_readClass_46 : decode cX8_readClass 46 = .ok (.istore_n 1, 1) := by decide +kernel
theorem dX8_readClass_47 : decode cX8_readClass 47 = .ok (.iload_n 1, 1) := by decide +kernel
theorem dX8_readClass_48 : decode cX8_readClass 48 = .ok (.sipush 3000, 3) := by decide +kernel
theorem dX8_readClass_51 : decode cX8_readClass 51 = .ok (.if_icmp .ge 35, 3) := by decide +kernel
theorem dX8_readClass_54 : decode cX8_readClass 54 = .ok (.aload_n 0, 1) := by decide +kernel
theorem dX8_readClass_55 : decode cX8_readClass 55 = .ok (.getfield 7, 3) := by decide +kernel
theorem dX8_readClass_58 : decode cX8_readClass 58 = .ok (.getfield 19, 3) := by decide +kernel
theorem dX8_readClass_61 : decode cX8_readClass 61 = .ok (.ifCond .ne 25, 3) := by decide +kernel
theorem dX8_readClass_64 : decode cX8_readClass 64 = .ok (.aload_n 0, 1) := by decide +kernel
theorem dX8_readClass_65 : decode cX8_readClass 65 = .ok (.getfield 7, 3) := by decide +kernel
theorem dX8_readClass_68 : decode cX8_readClass 68 = .ok (.invokevirtual 23, 3) := by decide +kernel
theorem dX8_readClass_71 : decode cX8_readClass 71 = .ok (.bipush 43, 2) := by decide +kernel
theorem dX8_readClass_73 : decode cX8_readClass 73 = .ok (.if_icmp .eq 13, 3) := by decide +kernel
theorem dX8_readClass_76 : decode cX8_readClass 76 = .ok (.aload_n 0, 1) := by decide +kernel
theorem dX8_readClass_77 : decode cX8_readClass 77 = .ok (.invokevirtual 49, 3) := by decide +kernel
theorem dX8_readClass_80 : decode cX8_readClass 80 = .ok (.iinc 1 1, 3) := by decide +kernel
theorem dX8_readClass_83 : decode cX8_readClass 83 = .ok (.goto (-36), 3) := by decide +kernel
theorem dX8_readClass_86 : decode cX8_readClass 86 = .ok (.aload_n 0, 1) := by decide +kernel
theorem dX8_readClass_87 : decode cX8_readClass 87 = .ok (.bipush 43, 2) := by decide +kernel
theorem dX8_readClass_89 : decode cX8_readClass 89 = .ok (.invokevirtual 37, 3) := by decide +kernel
theorem dX8_readClass_92 : decode cX8_readClass 92 = .ok (.return_, 1) := by decide +kernel
theorem dX8_readMember_0 : decode cX8_readMember 0 = .ok (.aload_n 0, 1) := by decide +kernel
theorem dX8_readMember_1 : decode cX8_readMember 1 = .ok (.bipush 25, 2) := by decide +kernel
theorem dX8_readMember_3 : decode cX8_readMember 3 = .ok (.invokevirtual 45, 3) := by decide +kernel
theorem dX8_readMember_6 : decode cX8_readMember 6 = .ok (.istore_n 1, 1) := by decide +kernel
theorem dX8_readMember_7 : decode cX8_readMember 7 = .ok (.aload_n 0, 1) := by decide +kernel
theorem dX8_readMember_8 : decode cX8_readMember 8 = .ok (.bipush 30, 2) := by decide +kernel
theorem dX8_readMember_10 : decode cX8_readMember 10 = .ok (.invokevirtual 45, 3) := by decide +kernel
theorem dX8_readMember_13 : decode cX8_readMember 13 = .ok (.ifCond .eq 8, 3) := by decide +kernel
theorem dX8_readMember_16 : decode cX8_readMember 16 = .ok (.iconst 1, 1) := by decide +kernel
theorem dX8_readMember_17 : decode cX8_readMember 17 = .ok (.istore_n 1, 1) := by decide +kernel
theorem dX8_readMember_18 : decode cX8_readMember 18 = .ok (.goto 7, 3) := by decide +kernel
theorem dX8_readMember_21 : decode cX8_readMember 21 = .ok (.aload_n 0, 1) := by decide +kernel
theorem dX8_readMember_22 : decode cX8_readMember 22 = .ok (.invokevirtual 52, 3) := by decide +kernel
theorem dX8_readMember_25 : decode cX8_readMember 25 = .ok (.aload_n 0, 1) := by decide +kernel
theorem dX8_readMember_26 : decode cX8_readMember 26 = .ok (.iconst 2, 1) := by decide +kernel
theorem dX8_readMember_27 : decode cX8_readMember 27 = .ok (.invokevirtual 37, 3) := by decide +kernel
theorem dX8_readMember_30 : decode cX8_readMember 30 = .ok (.iload_n 1, 1) := by decide +kernel
theorem dX8_readMember_31 : decode cX8_readMember 31 = .ok (.ifCond .ne 13, 3) := by decide +kernel
theorem dX8_readMember_34 : decode cX8_readMember 34 = .ok (.aload_n 0, 1) := by decide +kernel
theorem dX8_readMember_35 : decode cX8_readMember 35 = .ok (.bipush 46, 2) := by decide +kernel
theorem dX8_readMember_37 : decode cX8_readMember 37 = .ok (.invokevirtual 45, 3) := by decide +kernel
theorem dX8_readMember_40 : decode cX8_readMember 40 = .ok (.ifCond .eq 4, 3) := by decide +kernel
theorem dX8_readMember_43 : decode cX8_readMember 43 = .ok (.return_, 1) := by decide +kernel
theorem dX8_readMember_44 : decode cX8_readMember 44 = .ok (.aload_n 0, 1) := by decide +kernel
theorem dX8_readMember_45 : decode cX8_readMember 45 = .ok (.bipush 40, 2) := by decide +kernel
theorem dX8_readMember_47 : decode cX8_readMember 47 = .ok (.invokevirtual 37, 3) := by decide +kernel
theorem dX8_readMember_50 : decode cX8_readMember 50 = .ok (.aload_n 0, 1) := by decide +kernel
theorem dX8_readMember_51 : decode cX8_readMember 51 = .ok (.getfield 7, 3) := by decide +kernel
theorem dX8_readMember_54 : decode cX8_readMember 54 = .ok (.invokevirtual 23, 3) := by decide +kernel
theorem dX8_readMember_57 : decode cX8_readMember 57 = .ok (.bipush 41, 2) := by decide +kernel
theorem dX8_readMember_59 : decode cX8_readMember 59 = .ok (.if_icmp .eq 7, 3) := by decide +kernel
theorem dX8_readMember_62 : decode cX8_readMember 62 = .ok (.aload_n 0, 1) := by decide +kernel
theorem dX8_readMember_63 : decode cX8_readMember 63 = .ok (.invokevirtual 55, 3) := by decide +kernel
theorem dX8_readMember_66 : decode cX8_readMember 66 = .ok (.aload_n 0, 1) := by decide +kernel
theorem dX8_readMember_67 : decode cX8_readMember 67 = .ok (.bipush 41, 2) := by decide +kernel
theorem dX8_readMember_69 : decode cX8_readMember 69 = .ok (.invokevirtual 37, 3) := by decide +kernel
theorem dX8_readMember_72 : decode cX8_readMember 72 = .ok (.aload_n 0, 1) := by decide +kernel
theorem dX8_readMember_73 : decode cX8_readMember 73 = .ok (.iconst 0, 1) := by decide +kernel
theorem dX8_readMember_74 : decode cX8_readMember 74 = .ok (.invokevirtual 58, 3) := by decide +kernel
theorem dX8_readMember_77 : decode cX8_readMember 77 = .ok (.return_, 1) := by decide +kernel
theorem dX8_readBlock_0 : decode cX8_readBlock 0 = .ok (.aload_n 0, 1) := by decide +kernel
theorem dX8_readBlock_1 : decode cX8_readBlock 1 = .ok (.bipush 42, 2) := by decide +kernel
theorem dX8_readBlock_3 : decode cX8_readBlock 3 = .ok (.invokevirtual 37, 3) := by decide +kernel
theorem dX8_readBlock_6 : decode cX8_readBlock 6 = .ok (.iconst 0, 1) := by decide +kernel
theorem dX8_readBlock_7 : decode cX8_readBlock 7 = .ok (.istore_n 2, 1) := by decide +kernel
theorem dX8_readBlock_8 : decode cX8_readBlock 8 = .ok (.iload_n 2, 1) := by decide +kernel
theorem dX8_readBlock_9 : decode cX8_readBlock 9 = .ok (.sipush 3000, 3) := by decide +kernel
theorem dX8_readBlock_12 : decode cX8_readBlock 12 = .ok (.if_icmp .ge 36, 3) := by decide +kernel
theorem dX8_readBlock_15 : decode cX8_readBlock 15 = .ok (.aload_n 0, 1) := by decide +kernel
theorem dX8_readBlock_16 : decode cX8_readBlock 16 = .ok (.getfield 7, 3) := by decide +kernel
theorem dX8_readBlock_19 : decode cX8_readBlock 19 = .ok (.getfield 19, 3) := by decide +kernel
theorem dX8_readBlock_22 : decode cX8_readBlock 22 = .ok (.ifCond .ne 26, 3) := by decide +kernel
theorem dX8_readBlock_25 : decode cX8_readBlock 25 = .ok (.aload_n 0, 1) := by decide +kernel
theorem dX8_readBlock_26 : decode cX8_readBlock 26 = .ok (.getfield 7, 3) := by decide +kernel
theorem dX8_readBlock_29 : decode cX8_readBlock 29 = .ok (.invokevirtual 23, 3) := by decide +kernel
theorem dX8_readBlock_32 : decode cX8_readBlock 32 = .ok (.bipush 43, 2) := by decide +kernel
theorem dX8_readBlock_34 : decode cX8_readBlock 34 = .ok (.if_icmp .eq 14, 3) := by decide +kernel
theorem dX8_readBlock_37 : decode cX8_readBlock 37 = .ok (.aload_n 0, 1) := by decide +kernel
theorem dX8_readBlock_38 : decode cX8_readBlock 38 = .ok (.iload_n 1, 1) := by decide +kernel
theorem dX8_readBlock_39 : decode cX8_readBlock 39 = .ok (.invokevirtual 61, 3) := by decide +kernel
theorem dX8_readBlock_42 : decode cX8_readBlock 42 = .ok (.iinc 2 1, 3) := by decide +kernel
theorem dX8_readBlock_45 : decode cX8_readBlock 45 = .ok (.goto (-37), 3) := by decide +kernel
theorem dX8_readBlock_48 : decode cX8_readBlock 48 = .ok (.aload_n 0, 1) := by decide +kernel
theorem dX8_readBlock_49 : decode cX8_readBlock 49 = .ok (.bipush 43, 2) := by decide +kernel
theorem dX8_readBlock_51 : decode cX8_readBlock 51 = .ok (.invokevirtual 37, 3) := by decide +kernel
theorem dX8_readBlock_54 : decode cX8_readBlock 54 = .ok (.return_, 1) := by decide +kernel
theorem dX8_readStatement_0 : decode cX8_readStatement 0 = .ok (.aload_n 0, 1) := by decide +kernel
theorem dX8_readStatement_1 : decode cX8_readStatement 1 = .ok (.iload_n 1, 1) := by decide +kernel
theorem dX8_readStatement_2 : decode cX8_readStatement 2 = .ok (.invokevirtual 64, 3) := by decide +kernel
theorem dX8_readStatement_5 : decode cX8_readStatement 5 = .ok (.ifCond .eq 4, 3) := by decide +kernel
theorem dX8_readStatement_8 : decode cX8_readStatement 8 = .ok (.return_, 1) := by decide +kernel
theorem dX8_readStatement_9 : decode cX8_readStatement 9 = .ok (.aload_n 0, 1) := by decide +kernel
theorem dX8_readStatement_10 : decode cX8_readStatement 10 = .ok (.getfield 7, 3) := by decide +kernel
theorem dX8_readStatement_13 : decode cX8_readStatement 13 = .ok (.invokevirtual 23, 3) := by decide +kernel
theorem dX8_readStatement_16 : decode cX8_readStatement 16 = .ok (.lookupswitch 114 #[(18, 54), (29, 104), (31, 87), (42, 44)], 44) := by decide +kernel
theorem dX8_readStatement_60 : decode cX8_readStatement 60 = .ok (.aload_n 0, 1) := by decide +kernel
theorem dX8_readStatement_61 : decode cX8_readStatement 61 = .ok (.iload_n 1, 1) := by decide +kernel
theorem dX8_readStatement_62 : decode cX8_readStatement 62 = .ok (.iconst 1, 1) := by decide +kernel
theorem dX8_readStatement_63 : decode cX8_readStatement 63 = .ok (.iadd, 1) := by decide +kernel
theorem dX8_readStatement_64 : decode cX8_readStatement 64 = .ok (.invokevirtual 58, 3) := by decide +kernel
theorem dX8_readStatement_67 : decode cX8_readStatement 67 = .ok (.goto 96, 3) := by decide +kernel
theorem dX8_readStatement_70 : decode cX8_readStatement 70 = .ok (.aload_n 0, 1) := by decide +kernel
theorem dX8_readStatement_71 : decode cX8_readStatement 71 = .ok (.iload_n 1, 1) := by decide +kernel
theorem dX8_readStatement_72 : decode cX8_readStatement 72 = .ok (.iconst 1, 1) := by decide +kernel
theorem dX8_readStatement_73 : decode cX8_readStatement 73 = .ok (.iadd, 1) := by decide +kernel
theorem dX8_readStatement_74 : decode cX8_readStatement 74 = .ok (.invokevirtual 67, 3) := by decide +kernel
theorem dX8_readStatement_77 : decode cX8_readStatement 77 = .ok (.aload_n 0, 1) := by decide +kernel
theorem dX8_readStatement_78 : decode cX8_readStatement 78 = .ok (.iload_n 1, 1) := by decide +kernel
theorem dX8_readStatement_79 : decode cX8_readStatement 79 = .ok (.iconst 1, 1) := by decide +kernel
theorem dX8_readStatement_80 : decode cX8_readStatement 80 = .ok (.iadd, 1) := by decide +kernel
theorem dX8_readStatement_81 : decode cX8_readStatement 81 = .ok (.invokevirtual 61, 3) := by decide +kernel
theorem dX8_readStatement_84 : decode cX8_readStatement 84 = .ok (.aload_n 0, 1) := by decide +kernel
theorem dX8_readStatement_85 : decode cX8_readStatement 85 = .ok (.bipush 15, 2) := by decide +kernel
theorem dX8_readStatement_87 : decode cX8_readStatement 87 = .ok (.invokevirtual 45, 3) := by decide +kernel
theorem dX8_readStatement_90 : decode cX8_readStatement 90 = .ok (.ifCond .eq 73, 3) := by decide +kernel
theorem dX8_readStatement_93 : decode cX8_readStatement 93 = .ok (.aload_n 0, 1) := by decide +kernel
theorem dX8_readStatement_94 : decode cX8_readStatement 94 = .ok (.iload_n 1, 1) := by decide +kernel
theorem dX8_readStatement_95 : decode cX8_readStatement 95 = .ok (.iconst 1, 1) := by decide +kernel
theorem dX8_readStatement_96 : decode cX8_readStatement 96 = .ok (.iadd, 1) := by decide +kernel
theorem dX8_readStatement_97 : decode cX8_readStatement 97 = .ok (.invokevirtual 61, 3) := by decide +kernel
theorem dX8_readStatement_100 : decode cX8_readStatement 100 = .ok (.goto 63, 3) := by decide +kernel
theorem dX8_readStatement_103 : decode cX8_readStatement 103 = .ok (.aload_n 0, 1) := by decide +kernel
theorem dX8_readStatement_104 : decode cX8_readStatement 104 = .ok (.iload_n 1, 1) := by decide +kernel
theorem dX8_readStatement_105 : decode cX8_readStatement 105 = .ok (.iconst 1, 1) := by decide +kernel
theorem dX8_readStatement_106 : decode cX8_readStatement 106 = .ok (.iadd, 1) := by decide +kernel
theorem dX8_readStatement_107 : decode cX8_readStatement 107 = .ok (.invokevirtual 67, 3) := by decide +kernel
theorem dX8_readStatement_110 : decode cX8_readStatement 110 = .ok (.aload_n 0, 1) := by decide +kernel
theorem dX8_readStatement_111 : decode cX8_readStatement 111 = .ok (.iload_n 1, 1) := by decide +kernel
theorem dX8_readStatement_112 : decode cX8_readStatement 112 = .ok (.iconst 1, 1) := by decide +kernel
theorem dX8_readStatement_113 : decode cX8_readStatement 113 = .ok (.iadd, 1) := by decide +kernel
theorem dX8_readStatement_114 : decode cX8_readStatement 114 = .ok (.invokevirtual 61, 3) := by decide +kernel
theorem dX8_readStatement_117 : decode cX8_readStatement 117 = .ok (.goto 46, 3) := by decide +kernel
theorem dX8_readStatement_120 : decode cX8_readStatement 120 = .ok (.aload_n 0, 1) := by decide +kernel
theorem dX8_readStatement_121 : decode cX8_readStatement 121 = .ok (.iload_n 1, 1) := by decide +kernel
theorem dX8_readStatement_122 : decode cX8_readStatement 122 = .ok (.iconst 1, 1) := by decide +kernel
theorem dX8_readStatement_123 : decode cX8_readStatement 123 = .ok (.iadd, 1) := by decide +kernel
theorem dX8_readStatement_124 : decode cX8_readStatement 124 = .ok (.invokevirtual 70, 3) := by decide +kernel
theorem dX8_readStatement_127 : decode cX8_readStatement 127 = .ok (.goto 36, 3) := by decide +kernel
theorem dX8_readStatement_130 : decode cX8_readStatement 130 = .ok (.aload_n 0, 1) := by decide +kernel
theorem dX8_readStatement_131 : decode cX8_readStatement 131 = .ok (.getfield 7, 3) := by decide +kernel
theorem dX8_readStatement_134 : decode cX8_readStatement 134 = .ok (.invokevirtual 73, 3) := by decide +kernel
theorem dX8_readStatement_137 : decode cX8_readStatement 137 = .ok (.ifCond .eq 13, 3) := by decide +kernel
theorem dX8_readStatement_140 : decode cX8_readStatement 140 = .ok (.aload_n 0, 1) := by decide +kernel
theorem dX8_readStatement_141 : decode cX8_readStatement 141 = .ok (.iload_n 1, 1) := by decide +kernel
theorem dX8_readStatement_142 : decode cX8_readStatement 142 = .ok (.iconst 1, 1) := by decide +kernel
theorem dX8_readStatement_143 : decode cX8_readStatement 143 = .ok (.iadd, 1) := by decide +kernel
theorem dX8_readStatement_144 : decode cX8_readStatement 144 = .ok (.invokevirtual 77, 3) := by decide +kernel
theorem dX8_readStatement_147 : decode cX8_readStatement 147 = .ok (.goto 10, 3) := by decide +kernel
theorem dX8_readStatement_150 : decode cX8_readStatement 150 = .ok (.aload_n 0, 1) := by decide +kernel
theorem dX8_readStatement_151 : decode cX8_readStatement 151 = .ok (.iload_n 1, 1) := by decide +kernel
theorem dX8_readStatement_152 : decode cX8_readStatement 152 = .ok (.iconst 1, 1) := by decide +kernel
theorem dX8_readStatement_153 : decode cX8_readStatement 153 = .ok (.iadd, 1) := by decide +kernel
theorem dX8_readStatement_154 : decode cX8_readStatement 154 = .ok (.invokevirtual 80, 3) := by decide +kernel
theorem dX8_readStatement_157 : decode cX8_readStatement 157 = .ok (.aload_n 0, 1) := by decide +kernel
theorem dX8_readStatement_158 : decode cX8_readStatement 158 = .ok (.bipush 46, 2) := by decide +kernel
theorem dX8_readStatement_160 : decode cX8_readStatement 160 = .ok (.invokevirtual 37, 3) := by decide +kernel
theorem dX8_readStatement_163 : decode cX8_readStatement 163 = .ok (.return_, 1) := by decide +kernel
theorem dX8_readVariable_0 : decode cX8_readVariable 0 = .ok (.aload_n 0, 1) := by decide +kernel
theorem dX8_readVariable_1 : decode cX8_readVariable 1 = .ok (.invokevirtual 52, 3) := by decide +kernel
theorem dX8_readVariable_4 : decode cX8_readVariable 4 = .ok (.aload_n 0, 1) := by decide +kernel
theorem dX8_readVariable_5 : decode cX8_readVariable 5 = .ok (.iconst 2, 1) := by decide +kernel
theorem dX8_readVariable_6 : decode cX8_readVariable 6 = .ok (.invokevirtual 37, 3) := by decide +kernel
theorem dX8_readVariable_9 : decode cX8_readVariable 9 = .ok (.aload_n 0, 1) := by decide +kernel
theorem dX8_readVariable_10 : decode cX8_readVariable 10 = .ok (.bipush 51, 2) := by decide +kernel
theorem dX8_readVariable_12 : decode cX8_readVariable 12 = .ok (.invokevirtual 37, 3) := by decide +kernel
theorem dX8_readVariable_15 : decode cX8_readVariable 15 = .ok (.aload_n 0, 1) := by decide +kernel
theorem dX8_readVariable_16 : decode cX8_readVariable 16 = .ok (.iload_n 1, 1) := by decide +kernel
theorem dX8_readVariable_17 : decode cX8_readVariable 17 = .ok (.invokevirtual 83, 3) := by decide +kernel
theorem dX8_readVariable_20 : decode cX8_readVariable 20 = .ok (.return_, 1) := by decide +kernel
theorem dX8_readCondition_0 : decode cX8_readCondition 0 = .ok (.aload_n 0, 1) := by decide +kernel
theorem dX8_readCondition_1 : decode cX8_readCondition 1 = .ok (.getfield 7, 3) := by decide +kernel
theorem dX8_readCondition_4 : decode cX8_readCondition 4 = .ok (.dup, 1) := by decide +kernel
theorem dX8_readCondition_5 : decode cX8_readCondition 5 = .ok (.getfield 30, 3) := by decide +kernel
theorem dX8_readCondition_8 : decode cX8_readCondition 8 = .ok (.iconst 1, 1) := by decide +kernel
theorem dX8_readCondition_9 : decode cX8_readCondition 9 = .ok (.iadd, 1) := by decide +kernel
theorem dX8_readCondition_10 : decode cX8_readCondition 10 = .ok (.putfield 30, 3) := by decide +kernel
theorem dX8_readCondition_13 : decode cX8_readCondition 13 = .ok (.aload_n 0, 1) := by decide +kernel
theorem dX8_readCondition_14 : decode cX8_readCondition 14 = .ok (.bipush 40, 2) := by decide +kernel
theorem dX8_readCondition_16 : decode cX8_readCondition 16 = .ok (.invokevirtual 37, 3) := by decide +kernel
theorem dX8_readCondition_19 : decode cX8_readCondition 19 = .ok (.aload_n 0, 1) := by decide +kernel
theorem dX8_readCondition_20 : decode cX8_readCondition 20 = .ok (.iload_n 1, 1) := by decide +kernel
theorem dX8_readCondition_21 : decode cX8_readCondition 21 = .ok (.invokevirtual 83, 3) := by decide +kernel
theorem dX8_readCondition_24 : decode cX8_readCondition 24 = .ok (.aload_n 0, 1) := by decide +kernel
theorem dX8_readCondition_25 : decode cX8_readCondition 25 = .ok (.bipush 41, 2) := by decide +kernel
theorem dX8_readCondition_27 : decode cX8_readCondition 27 = .ok (.invokevirtual 37, 3) := by decide +kernel
theorem dX8_readCondition_30 : decode cX8_readCondition 30 = .ok (.return_, 1) := by decide +kernel
theorem dX8_readTry_0 : decode cX8_readTry 0 = .ok (.aload_n 0, 1) := by decide +kernel
theorem dX8_readTry_1 : decode cX8_readTry 1 = .ok (.getfield 7, 3) := by decide +kernel
theorem dX8_readTry_4 : decode cX8_readTry 4 = .ok (.dup, 1) := by decide +kernel
theorem dX8_readTry_5 : decode cX8_readTry 5 = .ok (.getfield 30, 3) := by decide +kernel
theorem dX8_readTry_8 : decode cX8_readTry 8 = .ok (.iconst 1, 1) := by decide +kernel
theorem dX8_readTry_9 : decode cX8_readTry 9 = .ok (.iadd, 1) := by decide +kernel
theorem dX8_readTry_10 : decode cX8_readTry 10 = .ok (.putfield 30, 3) := by decide +kernel
theorem dX8_readTry_13 : decode cX8_readTry 13 = .ok (.aload_n 0, 1) := by decide +kernel
theorem dX8_readTry_14 : decode cX8_readTry 14 = .ok (.iload_n 1, 1) := by decide +kernel
theorem dX8_readTry_15 : decode cX8_readTry 15 = .ok (.invokevirtual 58, 3) := by decide +kernel
theorem dX8_readTry_18 : decode cX8_readTry 18 = .ok (.aload_n 0, 1) := by decide +kernel
theorem dX8_readTry_19 : decode cX8_readTry 19 = .ok (.bipush 12, 2) := by decide +kernel
theorem dX8_readTry_21 : decode cX8_readTry 21 = .ok (.invokevirtual 37, 3) := by decide +kernel
theorem dX8_readTry_24 : decode cX8_readTry 24 = .ok (.aload_n 0, 1) := by decide +kernel
theorem dX8_readTry_25 : decode cX8_readTry 25 = .ok (.bipush 40, 2) := by decide +kernel
theorem dX8_readTry_27 : decode cX8_readTry 27 = .ok (.invokevirtual 37, 3) := by decide +kernel
theorem dX8_readTry_30 : decode cX8_readTry 30 = .ok (.aload_n 0, 1) := by decide +kernel
theorem dX8_readTry_31 : decode cX8_readTry 31 = .ok (.iconst 2, 1) := by decide +kernel
theorem dX8_readTry_32 : decode cX8_readTry 32 = .ok (.invokevirtual 37, 3) := by decide +kernel
theorem dX8_readTry_35 : decode cX8_readTry 35 = .ok (.aload_n 0, 1) := by decide +kernel
theorem dX8_readTry_36 : decode cX8_readTry 36 = .ok (.iconst 2, 1) := by decide +kernel
theorem dX8_readTry_37 : decode cX8_readTry 37 = .ok (.invokevirtual 37, 3) := by decide +kernel
theorem dX8_readTry_40 : decode cX8_readTry 40 = .ok (.aload_n 0, 1) := by decide +kernel
theorem dX8_readTry_41 : decode cX8_readTry 41 = .ok (.bipush 41, 2) := by decide +kernel
theorem dX8_readTry_43 : decode cX8_readTry 43 = .ok (.invokevirtual 37, 3) := by decide +kernel
theorem dX8_readTry_46 : decode cX8_readTry 46 = .ok (.aload_n 0, 1) := by decide +kernel
theorem dX8_readTry_47 : decode cX8_readTry 47 = .ok (.iload_n 1, 1) := by decide +kernel
theorem dX8_readTry_48 : decode cX8_readTry 48 = .ok (.invokevirtual 58, 3) := by decide +kernel
theorem dX8_readTry_51 : decode cX8_readTry 51 = .ok (.return_, 1) := by decide +kernel
theorem dX8_readPlain_0 : decode cX8_readPlain 0 = .ok (.aload_n 0, 1) := by decide +kernel
theorem dX8_readPlain_1 : decode cX8_readPlain 1 = .ok (.getfield 7, 3) := by decide +kernel
theorem dX8_readPlain_4 : decode cX8_readPlain 4 = .ok (.invokevirtual 23, 3) := by decide +kernel
theorem dX8_readPlain_7 : decode cX8_readPlain 7 = .ok (.lookupswitch 127 #[(11, 49), (14, 49), (23, 119), (24, 65), (27, 98)], 49) := by decide +kernel
theorem dX8_readPlain_56 : decode cX8_readPlain 56 = .ok (.aload_n 0, 1) := by decide +kernel
theorem dX8_readPlain_57 : decode cX8_readPlain 57 = .ok (.getfield 7, 3) := by decide +kernel
theorem dX8_readPlain_60 : decode cX8_readPlain 60 = .ok (.dup, 1) := by decide +kernel
theorem dX8_readPlain_61 : decode cX8_readPlain 61 = .ok (.getfield 30, 3) := by decide +kernel
theorem dX8_readPlain_64 : decode cX8_readPlain 64 = .ok (.iconst 1, 1) := by decide +kernel
theorem dX8_readPlain_65 : decode cX8_readPlain 65 = .ok (.iadd, 1) := by decide +kernel
theorem dX8_readPlain_66 : decode cX8_readPlain 66 = .ok (.putfield 30, 3) := by decide +kernel
theorem dX8_readPlain_69 : decode cX8_readPlain 69 = .ok (.goto 84, 3) := by decide +kernel
theorem dX8_readPlain_72 : decode cX8_readPlain 72 = .ok (.aload_n 0, 1) := by decide +kernel
theorem dX8_readPlain_73 : decode cX8_readPlain 73 = .ok (.getfield 7, 3) := by decide +kernel
theorem dX8_readPlain_76 : decode cX8_readPlain 76 = .ok (.dup, 1) := by decide +kernel
theorem dX8_readPlain_77 : decode cX8_readPlain 77 = .ok (.getfield 30, 3) := by decide +kernel
theorem dX8_readPlain_80 : decode cX8_readPlain 80 = .ok (.iconst 1, 1) := by decide +kernel
theorem dX8_readPlain_81 : decode cX8_readPlain 81 = .ok (.iadd, 1) := by decide +kernel
theorem dX8_readPlain_82 : decode cX8_readPlain 82 = .ok (.putfield 30, 3) := by decide +kernel
theorem dX8_readPlain_85 : decode cX8_readPlain 85 = .ok (.aload_n 0, 1) := by decide +kernel
theorem dX8_readPlain_86 : decode cX8_readPlain 86 = .ok (.getfield 7, 3) := by decide +kernel
theorem dX8_readPlain_89 : decode cX8_readPlain 89 = .ok (.invokevirtual 23, 3) := by decide +kernel
theorem dX8_readPlain_92 : decode cX8_readPlain 92 = .ok (.bipush 46, 2) := by decide +kernel
theorem dX8_readPlain_94 : decode cX8_readPlain 94 = .ok (.if_icmp .eq 59, 3) := by decide +kernel
theorem dX8_readPlain_97 : decode cX8_readPlain 97 = .ok (.aload_n 0, 1) := by decide +kernel
theorem dX8_readPlain_98 : decode cX8_readPlain 98 = .ok (.iload_n 1, 1) := by decide +kernel
theorem dX8_readPlain_99 : decode cX8_readPlain 99 = .ok (.invokevirtual 83, 3) := by decide +kernel
theorem dX8_readPlain_102 : decode cX8_readPlain 102 = .ok (.goto 51, 3) := by decide +kernel
theorem dX8_readPlain_105 : decode cX8_readPlain 105 = .ok (.aload_n 0, 1) := by decide +kernel
theorem dX8_readPlain_106 : decode cX8_readPlain 106 = .ok (.getfield 7, 3) := by decide +kernel
theorem dX8_readPlain_109 : decode cX8_readPlain 109 = .ok (.dup, 1) := by decide +kernel
theorem dX8_readPlain_110 : decode cX8_readPlain 110 = .ok (.getfield 30, 3) := by decide +kernel
theorem dX8_readPlain_113 : decode cX8_readPlain 113 = .ok (.iconst 1, 1) := by decide +kernel
theorem dX8_readPlain_114 : decode cX8_readPlain 114 = .ok (.iadd, 1) := by decide +kernel
theorem dX8_readPlain_115 : decode cX8_readPlain 115 = .ok (.putfield 30, 3) := by decide +kernel
theorem dX8_readPlain_118 : decode cX8_readPlain 118 = .ok (.aload_n 0, 1) := by decide +kernel
theorem dX8_readPlain_119 : decode cX8_readPlain 119 = .ok (.iload_n 1, 1) := by decide +kernel
theorem dX8_readPlain_120 : decode cX8_readPlain 120 = .ok (.invokevirtual 83, 3) := by decide +kernel
theorem dX8_readPlain_123 : decode cX8_readPlain 123 = .ok (.goto 30, 3) := by decide +kernel
theorem dX8_readPlain_126 : decode cX8_readPlain 126 = .ok (.aload_n 0, 1) := by decide +kernel
theorem dX8_readPlain_127 : decode cX8_readPlain 127 = .ok (.iload_n 1, 1) := by decide +kernel
theorem dX8_readPlain_128 : decode cX8_readPlain 128 = .ok (.invokevirtual 67, 3) := by decide +kernel
theorem dX8_readPlain_131 : decode cX8_readPlain 131 = .ok (.goto 22, 3) := by decide +kernel
theorem dX8_readPlain_134 : decode cX8_readPlain 134 = .ok (.aload_n 0, 1) := by decide +kernel
theorem dX8_readPlain_135 : decode cX8_readPlain 135 = .ok (.iload_n 1, 1) := by decide +kernel
theorem dX8_readPlain_136 : decode cX8_readPlain 136 = .ok (.invokevirtual 83, 3) := by decide +kernel
theorem dX8_readPlain_139 : decode cX8_readPlain 139 = .ok (.aload_n 0, 1) := by decide +kernel
theorem dX8_readPlain_140 : decode cX8_readPlain 140 = .ok (.bipush 51, 2) := by decide +kernel
theorem dX8_readPlain_142 : decode cX8_readPlain 142 = .ok (.invokevirtual 45, 3) := by decide +kernel
theorem dX8_readPlain_145 : decode cX8_readPlain 145 = .ok (.ifCond .eq 8, 3) := by decide +kernel
theorem dX8_readPlain_148 : decode cX8_readPlain 148 = .ok (.aload_n 0, 1) := by decide +kernel
theorem dX8_readPlain_149 : decode cX8_readPlain 149 = .ok (.iload_n 1, 1) := by decide +kernel
theorem dX8_readPlain_150 : decode cX8_readPlain 150 = .ok (.invokevirtual 83, 3) := by decide +kernel
theorem dX8_readPlain_153 : decode cX8_readPlain 153 = .ok (.return_, 1) := by decide +kernel
theorem dX8_readValue_0 : decode cX8_readValue 0 = .ok (.aload_n 0, 1) := by decide +kernel
theorem dX8_readValue_1 : decode cX8_readValue 1 = .ok (.iload_n 1, 1) := by decide +kernel
theorem dX8_readValue_2 : decode cX8_readValue 2 = .ok (.invokevirtual 64, 3) := by decide +kernel
theorem dX8_readValue_5 : decode cX8_readValue 5 = .ok (.ifCond .eq 4, 3) := by decide +kernel
theorem dX8_readValue_8 : decode cX8_readValue 8 = .ok (.return_, 1) := by decide +kernel
theorem dX8_readValue_9 : decode cX8_readValue 9 = .ok (.iconst 1, 1) := by decide +kernel
theorem dX8_readValue_10 : decode cX8_readValue 10 = .ok (.istore_n 2, 1) := by decide +kernel
theorem dX8_readValue_11 : decode cX8_readValue 11 = .ok (.aload_n 0, 1) := by decide +kernel
theorem dX8_readValue_12 : decode cX8_readValue 12 = .ok (.iload_n 1, 1) := by decide +kernel
theorem dX8_readValue_13 : decode cX8_readValue 13 = .ok (.iconst 1, 1) := by decide +kernel
theorem dX8_readValue_14 : decode cX8_readValue 14 = .ok (.iadd, 1) := by decide +kernel
theorem dX8_readValue_15 : decode cX8_readValue 15 = .ok (.invokevirtual 86, 3) := by decide +kernel
theorem dX8_readValue_18 : decode cX8_readValue 18 = .ok (.iconst 0, 1) := by decide +kernel
theorem dX8_readValue_19 : decode cX8_readValue 19 = .ok (.istore_n 3, 1) := by decide +kernel
theorem dX8_readValue_20 : decode cX8_readValue 20 = .ok (.iload_n 3, 1) := by decide +kernel
theorem dX8_readValue_21 : decode cX8_readValue 21 = .ok (.sipush 3000, 3) := by decide +kernel
theorem dX8_readValue_24 : decode cX8_readValue 24 = .ok (.if_icmp .ge 64, 3) := by decide +kernel
theorem dX8_readValue_27 : decode cX8_readValue 27 = .ok (.aload_n 0, 1) := by decide +kernel
theorem dX8_readValue_28 : decode cX8_readValue 28 = .ok (.iload_n 2, 1) := by decide +kernel
theorem dX8_readValue_29 : decode cX8_readValue 29 = .ok (.invokevirtual 89, 3) := by decide +kernel
theorem dX8_readValue_32 : decode cX8_readValue 32 = .ok (.ifCond .eq 56, 3) := by decide +kernel
theorem dX8_readValue_35 : decode cX8_readValue 35 = .ok (.aload_n 0, 1) := by decide +kernel
theorem dX8_readValue_36 : decode cX8_readValue 36 = .ok (.bipush 19, 2) := by decide +kernel
theorem dX8_readValue_38 : decode cX8_readValue 38 = .ok (.invokevirtual 45, 3) := by decide +kernel
theorem dX8_readValue_41 : decode cX8_readValue 41 = .ok (.ifCond .ne 7, 3) := by decide +kernel
theorem dX8_readValue_44 : decode cX8_readValue 44 = .ok (.iconst 1, 1) := by decide +kernel
theorem dX8_readValue_45 : decode cX8_readValue 45 = .ok (.goto 4, 3) := by decide +kernel
theorem dX8_readValue_48 : decode cX8_readValue 48 = .ok (.iconst 0, 1) := by decide +kernel
theorem dX8_readValue_49 : decode cX8_readValue 49 = .ok (.istore_n 2, 1) := by decide +kernel
theorem dX8_readValue_50 : decode cX8_readValue 50 = .ok (.iload_n 2, 1) := by decide +kernel
theorem dX8_readValue_51 : decode cX8_readValue 51 = .ok (.ifCond .eq 26, 3) := by decide +kernel
theorem dX8_readValue_54 : decode cX8_readValue 54 = .ok (.aload_n 0, 1) := by decide +kernel
theorem dX8_readValue_55 : decode cX8_readValue 55 = .ok (.getfield 7, 3) := by decide +kernel
theorem dX8_readValue_58 : decode cX8_readValue 58 = .ok (.dup, 1) := by decide +kernel
theorem dX8_readValue_59 : decode cX8_readValue 59 = .ok (.getfield 30, 3) := by decide +kernel
theorem dX8_readValue_62 : decode cX8_readValue 62 = .ok (.iconst 1, 1) := by decide +kernel
theorem dX8_readValue_63 : decode cX8_readValue 63 = .ok (.iadd, 1) := by decide +kernel
theorem dX8_readValue_64 : decode cX8_readValue 64 = .ok (.putfield 30, 3) := by decide +kernel
theorem dX8_readValue_67 : decode cX8_readValue 67 = .ok (.aload_n 0, 1) := by decide +kernel
theorem dX8_readValue_68 : decode cX8_readValue 68 = .ok (.iload_n 1, 1) := by decide +kernel
theorem dX8_readValue_69 : decode cX8_readValue 69 = .ok (.iconst 1, 1) := by decide +kernel
theorem dX8_readValue_70 : decode cX8_readValue 70 = .ok (.iadd, 1) := by decide +kernel
theorem dX8_readValue_71 : decode cX8_readValue 71 = .ok (.invokevirtual 86, 3) := by decide +kernel
theorem dX8_readValue_74 : decode cX8_readValue 74 = .ok (.goto 8, 3) := by decide +kernel
theorem dX8_readValue_77 : decode cX8_readValue 77 = .ok (.aload_n 0, 1) := by decide +kernel
theorem dX8_readValue_78 : decode cX8_readValue 78 = .ok (.iconst 2, 1) := by decide +kernel
theorem dX8_readValue_79 : decode cX8_readValue 79 = .ok (.invokevirtual 37, 3) := by decide +kernel
theorem dX8_readValue_82 : decode cX8_readValue 82 = .ok (.iinc 3 1, 3) := by decide +kernel
theorem dX8_readValue_85 : decode cX8_readValue 85 = .ok (.goto (-65), 3) := by decide +kernel
theorem dX8_readValue_88 : decode cX8_readValue 88 = .ok (.aload_n 0, 1) := by decide +kernel
theorem dX8_readValue_89 : decode cX8_readValue 89 = .ok (.bipush 49, 2) := by decide +kernel
theorem dX8_readValue_91 : decode cX8_readValue 91 = .ok (.invokevirtual 45, 3) := by decide +kernel
theorem dX8_readValue_94 : decode cX8_readValue 94 = .ok (.ifCond .eq 23, 3) := by decide +kernel
theorem dX8_readValue_97 : decode cX8_readValue 97 = .ok (.aload_n 0, 1) := by decide +kernel
theorem dX8_readValue_98 : decode cX8_readValue 98 = .ok (.iload_n 1, 1) := by decide +kernel
theorem dX8_readValue_99 : decode cX8_readValue 99 = .ok (.iconst 1, 1) := by decide +kernel
theorem dX8_readValue_100 : decode cX8_readValue 100 = .ok (.iadd, 1) := by decide +kernel
theorem dX8_readValue_101 : decode cX8_readValue 101 = .ok (.invokevirtual 83, 3) := by decide +kernel
theorem dX8_readValue_104 : decode cX8_readValue 104 = .ok (.aload_n 0, 1) := by decide +kernel
theorem dX8_readValue_105 : decode cX8_readValue 105 = .ok (.bipush 50, 2) := by decide +kernel
theorem dX8_readValue_107 : decode cX8_readValue 107 = .ok (.invokevirtual 37, 3) := by decide +kernel
theorem dX8_readValue_110 : decode cX8_readValue 110 = .ok (.aload_n 0, 1) := by decide +kernel
theorem dX8_readValue_111 : decode cX8_readValue 111 = .ok (.iload_n 1, 1) := by decide +kernel
theorem dX8_readValue_112 : decode cX8_readValue 112 = .ok (.iconst 1, 1) := by decide +kernel
theorem dX8_readValue_113 : decode cX8_readValue 113 = .ok (.iadd, 1) := by decide +kernel
theorem dX8_readValue_114 : decode cX8_readValue 114 = .ok (.invokevirtual 83, 3) := by decide +kernel
theorem dX8_readValue_117 : decode cX8_readValue 117 = .ok (.return_, 1) := by decide +kernel
theorem dX8_readUnary_0 : decode cX8_readUnary 0 = .ok (.aload_n 0, 1) := by decide +kernel
theorem dX8_readUnary_1 : decode cX8_readUnary 1 = .ok (.getfield 7, 3) := by decide +kernel
theorem dX8_readUnary_4 : decode cX8_readUnary 4 = .ok (.invokevirtual 23, 3) := by decide +kernel
theorem dX8_readUnary_7 : decode cX8_readUnary 7 = .ok (.istore_n 2, 1) := by decide +kernel
theorem dX8_readUnary_8 : decode cX8_readUnary 8 = .ok (.aload_n 0, 1) := by decide +kernel
theorem dX8_readUnary_9 : decode cX8_readUnary 9 = .ok (.getfield 7, 3) := by decide +kernel
theorem dX8_readUnary_12 : decode cX8_readUnary 12 = .ok (.invokevirtual 97, 3) := by decide +kernel
theorem dX8_readUnary_15 : decode cX8_readUnary 15 = .ok (.istore_n 3, 1) := by decide +kernel
theorem dX8_readUnary_16 : decode cX8_readUnary 16 = .ok (.iload_n 3, 1) := by decide +kernel
theorem dX8_readUnary_17 : decode cX8_readUnary 17 = .ok (.ifCond .ne 27, 3) := by decide +kernel
theorem dX8_readUnary_20 : decode cX8_readUnary 20 = .ok (.iload_n 2, 1) := by decide +kernel
theorem dX8_readUnary_21 : decode cX8_readUnary 21 = .ok (.bipush 62, 2) := by decide +kernel
theorem dX8_readUnary_23 : decode cX8_readUnary 23 = .ok (.if_icmp .eq 21, 3) := by decide +kernel
theorem dX8_readUnary_26 : decode cX8_readUnary 26 = .ok (.iload_n 2, 1) := by decide +kernel
theorem dX8_readUnary_27 : decode cX8_readUnary 27 = .ok (.bipush 71, 2) := by decide +kernel
theorem dX8_readUnary_29 : decode cX8_readUnary 29 = .ok (.if_icmp .eq 15, 3) := by decide +kernel
theorem dX8_readUnary_32 : decode cX8_readUnary 32 = .ok (.iload_n 2, 1) := by decide +kernel
theorem dX8_readUnary_33 : decode cX8_readUnary 33 = .ok (.bipush 72, 2) := by decide +kernel
theorem dX8_readUnary_35 : decode cX8_readUnary 35 = .ok (.if_icmp .eq 9, 3) := by decide +kernel
theorem dX8_readUnary_38 : decode cX8_readUnary 38 = .ok (.aload_n 0, 1) := by decide +kernel
theorem dX8_readUnary_39 : decode cX8_readUnary 39 = .ok (.iload_n 1, 1) := by decide +kernel
theorem dX8_readUnary_40 : decode cX8_readUnary 40 = .ok (.invokevirtual 100, 3) := by decide +kernel
theorem dX8_readUnary_43 : decode cX8_readUnary 43 = .ok (.return_, 1) := by decide +kernel
theorem dX8_readUnary_44 : decode cX8_readUnary 44 = .ok (.aload_n 0, 1) := by decide +kernel
theorem dX8_readUnary_45 : decode cX8_readUnary 45 = .ok (.iload_n 1, 1) := by decide +kernel
theorem dX8_readUnary_46 : decode cX8_readUnary 46 = .ok (.invokevirtual 64, 3) := by decide +kernel
theorem dX8_readUnary_49 : decode cX8_readUnary 49 = .ok (.ifCond .eq 4, 3) := by decide +kernel
theorem dX8_readUnary_52 : decode cX8_readUnary 52 = .ok (.return_, 1) := by decide +kernel
theorem dX8_readUnary_53 : decode cX8_readUnary 53 = .ok (.aload_n 0, 1) := by decide +kernel
theorem dX8_readUnary_54 : decode cX8_readUnary 54 = .ok (.getfield 7, 3) := by decide +kernel
theorem dX8_readUnary_57 : decode cX8_readUnary 57 = .ok (.dup, 1) := by decide +kernel
theorem dX8_readUnary_58 : decode cX8_readUnary 58 = .ok (.getfield 30, 3) := by decide +kernel
theorem dX8_readUnary_61 : decode cX8_readUnary 61 = .ok (.iload_n 3, 1) := by decide +kernel
theorem dX8_readUnary_62 : decode cX8_readUnary 62 = .ok (.ifCond .eq 7, 3) := by decide +kernel
theorem dX8_readUnary_65 : decode cX8_readUnary 65 = .ok (.iconst 3, 1) := by decide +kernel
theorem dX8_readUnary_66 : decode cX8_readUnary 66 = .ok (.goto 4, 3) := by decide +kernel
theorem dX8_readUnary_69 : decode cX8_readUnary 69 = .ok (.iconst 1, 1) := by decide +kernel
theorem dX8_readUnary_70 : decode cX8_readUnary 70 = .ok (.iadd, 1) := by decide +kernel
theorem dX8_readUnary_71 : decode cX8_readUnary 71 = .ok (.putfield 30, 3) := by decide +kernel
theorem dX8_readUnary_74 : decode cX8_readUnary 74 = .ok (.aload_n 0, 1) := by decide +kernel
theorem dX8_readUnary_75 : decode cX8_readUnary 75 = .ok (.iload_n 1, 1) := by decide +kernel
theorem dX8_readUnary_76 : decode cX8_readUnary 76 = .ok (.iconst 1, 1) := by decide +kernel
theorem dX8_readUnary_77 : decode cX8_readUnary 77 = .ok (.iadd, 1) := by decide +kernel
theorem dX8_readUnary_78 : decode cX8_readUnary 78 = .ok (.invokevirtual 86, 3) := by decide +kernel
theorem dX8_readUnary_81 : decode cX8_readUnary 81 = .ok (.return_, 1) := by decide +kernel
theorem dX8_readPrimary_0 : decode cX8_readPrimary 0 = .ok (.aload_n 0, 1) := by decide +kernel
theorem dX8_readPrimary_1 : decode cX8_readPrimary 1 = .ok (.getfield 7, 3) := by decide +kernel
theorem dX8_readPrimary_4 : decode cX8_readPrimary 4 = .ok (.invokevirtual 23, 3) := by decide +kernel
theorem dX8_readPrimary_7 : decode cX8_readPrimary 7 = .ok (.lookupswitch 145 #[(2, 89), (3, 73), (17, 73), (21, 137), (22, 73), (26, 73), (28, 73), (40, 110)], 73) := by decide +kernel
theorem dX8_readPrimary_80 : decode cX8_readPrimary 80 = .ok (.aload_n 0, 1) := by decide +kernel
theorem dX8_readPrimary_81 : decode cX8_readPrimary 81 = .ok (.getfield 7, 3) := by decide +kernel
theorem dX8_readPrimary_84 : decode cX8_readPrimary 84 = .ok (.dup, 1) := by decide +kernel
theorem dX8_readPrimary_85 : decode cX8_readPrimary 85 = .ok (.getfield 30, 3) := by decide +kernel
theorem dX8_readPrimary_88 : decode cX8_readPrimary 88 = .ok (.iconst 1, 1) := by decide +kernel
theorem dX8_readPrimary_89 : decode cX8_readPrimary 89 = .ok (.iadd, 1) := by decide +kernel
theorem dX8_readPrimary_90 : decode cX8_readPrimary 90 = .ok (.putfield 30, 3) := by decide +kernel
theorem dX8_readPrimary_93 : decode cX8_readPrimary 93 = .ok (.goto 67, 3) := by decide +kernel
theorem dX8_readPrimary_96 : decode cX8_readPrimary 96 = .ok (.aload_n 0, 1) := by decide +kernel
theorem dX8_readPrimary_97 : decode cX8_readPrimary 97 = .ok (.getfield 7, 3) := by decide +kernel
theorem dX8_readPrimary_100 : decode cX8_readPrimary 100 = .ok (.dup, 1) := by decide +kernel
theorem dX8_readPrimary_101 : decode cX8_readPrimary 101 = .ok (.getfield 30, 3) := by decide +kernel
theorem dX8_readPrimary_104 : decode cX8_readPrimary 104 = .ok (.iconst 1, 1) := by decide +kernel
theorem dX8_readPrimary_105 : decode cX8_readPrimary 105 = .ok (.iadd, 1) := by decide +kernel
theorem dX8_readPrimary_106 : decode cX8_readPrimary 106 = .ok (.putfield 30, 3) := by decide +kernel
theorem dX8_readPrimary_109 : decode cX8_readPrimary 109 = .ok (.aload_n 0, 1) := by decide +kernel
theorem dX8_readPrimary_110 : decode cX8_readPrimary 110 = .ok (.iload_n 1, 1) := by decide +kernel
theorem dX8_readPrimary_111 : decode cX8_readPrimary 111 = .ok (.invokevirtual 103, 3) := by decide +kernel
theorem dX8_readPrimary_114 : decode cX8_readPrimary 114 = .ok (.goto 46, 3) := by decide +kernel
theorem dX8_readPrimary_117 : decode cX8_readPrimary 117 = .ok (.aload_n 0, 1) := by decide +kernel
theorem dX8_readPrimary_118 : decode cX8_readPrimary 118 = .ok (.getfield 7, 3) := by decide +kernel
theorem dX8_readPrimary_121 : decode cX8_readPrimary 121 = .ok (.dup, 1) := by decide +kernel
theorem dX8_readPrimary_122 : decode cX8_readPrimary 122 = .ok (.getfield 30, 3) := by decide +kernel
theorem dX8_readPrimary_125 : decode cX8_readPrimary 125 = .ok (.iconst 1, 1) := by decide +kernel
theorem dX8_readPrimary_126 : decode cX8_readPrimary 126 = .ok (.iadd, 1) := by decide +kernel
theorem dX8_readPrimary_127 : decode cX8_readPrimary 127 = .ok (.putfield 30, 3) := by decide +kernel
theorem dX8_readPrimary_130 : decode cX8_readPrimary 130 = .ok (.aload_n 0, 1) := by decide +kernel
theorem dX8_readPrimary_131 : decode cX8_readPrimary 131 = .ok (.iload_n 1, 1) := by decide +kernel
theorem dX8_readPrimary_132 : decode cX8_readPrimary 132 = .ok (.invokevirtual 83, 3) := by decide +kernel
theorem dX8_readPrimary_135 : decode cX8_readPrimary 135 = .ok (.aload_n 0, 1) := by decide +kernel
theorem dX8_readPrimary_136 : decode cX8_readPrimary 136 = .ok (.bipush 41, 2) := by decide +kernel
theorem dX8_readPrimary_138 : decode cX8_readPrimary 138 = .ok (.invokevirtual 37, 3) := by decide +kernel
theorem dX8_readPrimary_141 : decode cX8_readPrimary 141 = .ok (.goto 19, 3) := by decide +kernel
theorem dX8_readPrimary_144 : decode cX8_readPrimary 144 = .ok (.aload_n 0, 1) := by decide +kernel
theorem dX8_readPrimary_145 : decode cX8_readPrimary 145 = .ok (.iload_n 1, 1) := by decide +kernel
theorem dX8_readPrimary_146 : decode cX8_readPrimary 146 = .ok (.invokevirtual 106, 3) := by decide +kernel
theorem dX8_readPrimary_149 : decode cX8_readPrimary 149 = .ok (.goto 11, 3) := by decide +kernel
theorem dX8_readPrimary_152 : decode cX8_readPrimary 152 = .ok (.aload_n 0, 1) := by decide +kernel
theorem dX8_readPrimary_153 : decode cX8_readPrimary 153 = .ok (.getfield 7, 3) := by decide +kernel
theorem dX8_readPrimary_156 : decode cX8_readPrimary 156 = .ok (.iconst 2, 1) := by decide +kernel
theorem dX8_readPrimary_157 : decode cX8_readPrimary 157 = .ok (.invokevirtual 33, 3) := by decide +kernel
theorem dX8_readPrimary_160 : decode cX8_readPrimary 160 = .ok (.aload_n 0, 1) := by decide +kernel
theorem dX8_readPrimary_161 : decode cX8_readPrimary 161 = .ok (.iload_n 1, 1) := by decide +kernel
theorem dX8_readPrimary_162 : decode cX8_readPrimary 162 = .ok (.invokevirtual 109, 3) := by decide +kernel
theorem dX8_readPrimary_165 : decode cX8_readPrimary 165 = .ok (.return_, 1) := by decide +kernel
theorem dX8_readBehind_0 : decode cX8_readBehind 0 = .ok (.iconst 1, 1) := by decide +kernel
theorem dX8_readBehind_1 : decode cX8_readBehind 1 = .ok (.istore_n 2, 1) := by decide +kernel
theorem dX8_readBehind_2 : decode cX8_readBehind 2 = .ok (.iconst 0, 1) := by decide +kernel
theorem dX8_readBehind_3 : decode cX8_readBehind 3 = .ok (.istore_n 3, 1) := by decide +kernel
theorem dX8_readBehind_4 : decode cX8_readBehind 4 = .ok (.iload_n 3, 1) := by decide +kernel
theorem dX8_readBehind_5 : decode cX8_readBehind 5 = .ok (.sipush 3000, 3) := by decide +kernel
theorem dX8_readBehind_8 : decode cX8_readBehind 8 = .ok (.if_icmp .ge 60, 3) := by decide +kernel
theorem dX8_readBehind_11 : decode cX8_readBehind 11 = .ok (.iload_n 2, 1) := by decide +kernel
theorem dX8_readBehind_12 : decode cX8_readBehind 12 = .ok (.ifCond .eq 56, 3) := by decide +kernel
theorem dX8_readBehind_15 : decode cX8_readBehind 15 = .ok (.aload_n 0, 1) := by decide +kernel
theorem dX8_readBehind_16 : decode cX8_readBehind 16 = .ok (.bipush 48, 2) := by decide +kernel
theorem dX8_readBehind_18 : decode cX8_readBehind 18 = .ok (.invokevirtual 45, 3) := by decide +kernel
theorem dX8_readBehind_21 : decode cX8_readBehind 21 = .ok (.ifCond .eq 16, 3) := by decide +kernel
theorem dX8_readBehind_24 : decode cX8_readBehind 24 = .ok (.aload_n 0, 1) := by decide +kernel
theorem dX8_readBehind_25 : decode cX8_readBehind 25 = .ok (.iconst 2, 1) := by decide +kernel
theorem dX8_readBehind_26 : decode cX8_readBehind 26 = .ok (.invokevirtual 37, 3) := by decide +kernel
theorem dX8_readBehind_29 : decode cX8_readBehind 29 = .ok (.aload_n 0, 1) := by decide +kernel
theorem dX8_readBehind_30 : decode cX8_readBehind 30 = .ok (.iload_n 1, 1) := by decide +kernel
theorem dX8_readBehind_31 : decode cX8_readBehind 31 = .ok (.invokevirtual 103, 3) := by decide +kernel
theorem dX8_readBehind_34 : decode cX8_readBehind 34 = .ok (.goto 28, 3) := by decide +kernel
theorem dX8_readBehind_37 : decode cX8_readBehind 37 = .ok (.aload_n 0, 1) := by decide +kernel
theorem dX8_readBehind_38 : decode cX8_readBehind 38 = .ok (.bipush 44, 2) := by decide +kernel
theorem dX8_readBehind_40 : decode cX8_readBehind 40 = .ok (.invokevirtual 45, 3) := by decide +kernel
theorem dX8_readBehind_43 : decode cX8_readBehind 43 = .ok (.ifCond .eq 17, 3) := by decide +kernel
theorem dX8_readBehind_46 : decode cX8_readBehind 46 = .ok (.aload_n 0, 1) := by decide +kernel
theorem dX8_readBehind_47 : decode cX8_readBehind 47 = .ok (.iload_n 1, 1) := by decide +kernel
theorem dX8_readBehind_48 : decode cX8_readBehind 48 = .ok (.invokevirtual 83, 3) := by decide +kernel
theorem dX8_readBehind_51 : decode cX8_readBehind 51 = .ok (.aload_n 0, 1) := by decide +kernel
theorem dX8_readBehind_52 : decode cX8_readBehind 52 = .ok (.bipush 45, 2) := by decide +kernel
theorem dX8_readBehind_54 : decode cX8_readBehind 54 = .ok (.invokevirtual 37, 3) := by decide +kernel
theorem dX8_readBehind_57 : decode cX8_readBehind 57 = .ok (.goto 5, 3) := by decide +kernel
theorem dX8_readBehind_60 : decode cX8_readBehind 60 = .ok (.iconst 0, 1) := by decide +kernel
theorem dX8_readBehind_61 : decode cX8_readBehind 61 = .ok (.istore_n 2, 1) := by decide +kernel
theorem dX8_readBehind_62 : decode cX8_readBehind 62 = .ok (.iinc 3 1, 3) := by decide +kernel
theorem dX8_readBehind_65 : decode cX8_readBehind 65 = .ok (.goto (-61), 3) := by decide +kernel
theorem dX8_readBehind_68 : decode cX8_readBehind 68 = .ok (.return_, 1) := by decide +kernel
theorem dX8_readNew_0 : decode cX8_readNew 0 = .ok (.aload_n 0, 1) := by decide +kernel
theorem dX8_readNew_1 : decode cX8_readNew 1 = .ok (.getfield 7, 3) := by decide +kernel
theorem dX8_readNew_4 : decode cX8_readNew 4 = .ok (.dup, 1) := by decide +kernel
theorem dX8_readNew_5 : decode cX8_readNew 5 = .ok (.getfield 30, 3) := by decide +kernel
theorem dX8_readNew_8 : decode cX8_readNew 8 = .ok (.iconst 1, 1) := by decide +kernel
theorem dX8_readNew_9 : decode cX8_readNew 9 = .ok (.iadd, 1) := by decide +kernel
theorem dX8_readNew_10 : decode cX8_readNew 10 = .ok (.putfield 30, 3) := by decide +kernel
theorem dX8_readNew_13 : decode cX8_readNew 13 = .ok (.aload_n 0, 1) := by decide +kernel
theorem dX8_readNew_14 : decode cX8_readNew 14 = .ok (.bipush 20, 2) := by decide +kernel
theorem dX8_readNew_16 : decode cX8_readNew 16 = .ok (.invokevirtual 45, 3) := by decide +kernel
theorem dX8_readNew_19 : decode cX8_readNew 19 = .ok (.istore_n 2, 1) := by decide +kernel
theorem dX8_readNew_20 : decode cX8_readNew 20 = .ok (.iload_n 2, 1) := by decide +kernel
theorem dX8_readNew_21 : decode cX8_readNew 21 = .ok (.ifCond .ne 24, 3) := by decide +kernel
theorem dX8_readNew_24 : decode cX8_readNew 24 = .ok (.aload_n 0, 1) := by decide +kernel
theorem dX8_readNew_25 : decode cX8_readNew 25 = .ok (.iconst 2, 1) := by decide +kernel
theorem dX8_readNew_26 : decode cX8_readNew 26 = .ok (.invokevirtual 37, 3) := by decide +kernel
theorem dX8_readNew_29 : decode cX8_readNew 29 = .ok (.aload_n 0, 1) := by decide +kernel
theorem dX8_readNew_30 : decode cX8_readNew 30 = .ok (.bipush 40, 2) := by decide +kernel
theorem dX8_readNew_32 : decode cX8_readNew 32 = .ok (.invokevirtual 45, 3) := by decide +kernel
theorem dX8_readNew_35 : decode cX8_readNew 35 = .ok (.ifCond .eq 10, 3) := by decide +kernel
theorem dX8_readNew_38 : decode cX8_readNew 38 = .ok (.aload_n 0, 1) := by decide +kernel
theorem dX8_readNew_39 : decode cX8_readNew 39 = .ok (.bipush 41, 2) := by decide +kernel
theorem dX8_readNew_41 : decode cX8_readNew 41 = .ok (.invokevirtual 37, 3) := by decide +kernel
theorem dX8_readNew_44 : decode cX8_readNew 44 = .ok (.return_, 1) := by decide +kernel
theorem dX8_readNew_45 : decode cX8_readNew 45 = .ok (.aload_n 0, 1) := by decide +kernel
theorem dX8_readNew_46 : decode cX8_readNew 46 = .ok (.bipush 44, 2) := by decide +kernel
theorem dX8_readNew_48 : decode cX8_readNew 48 = .ok (.invokevirtual 37, 3) := by decide +kernel
theorem dX8_readNew_51 : decode cX8_readNew 51 = .ok (.aload_n 0, 1) := by decide +kernel
theorem dX8_readNew_52 : decode cX8_readNew 52 = .ok (.iload_n 1, 1) := by decide +kernel
theorem dX8_readNew_53 : decode cX8_readNew 53 = .ok (.invokevirtual 83, 3) := by decide +kernel
theorem dX8_readNew_56 : decode cX8_readNew 56 = .ok (.aload_n 0, 1) := by decide +kernel
theorem dX8_readNew_57 : decode cX8_readNew 57 = .ok (.bipush 45, 2) := by decide +kernel
theorem dX8_readNew_59 : decode cX8_readNew 59 = .ok (.invokevirtual 37, 3) := by decide +kernel
theorem dX8_readNew_62 : decode cX8_readNew 62 = .ok (.return_, 1) := by decide +kernel
theorem dX8_readArguments_0 : decode cX8_readArguments 0 = .ok (.aload_n 0, 1) := by decide +kernel
theorem dX8_readArguments_1 : decode cX8_readArguments 1 = .ok (.bipush 40, 2) := by decide +kernel
theorem dX8_readArguments_3 : decode cX8_readArguments 3 = .ok (.invokevirtual 45, 3) := by decide +kernel
theorem dX8_readArguments_6 : decode cX8_readArguments 6 = .ok (.ifCond .eq 12, 3) := by decide +kernel
theorem dX8_readArguments_9 : decode cX8_readArguments 9 = .ok (.aload_n 0, 1) := by decide +kernel
theorem dX8_readArguments_10 : decode cX8_readArguments 10 = .ok (.bipush 41, 2) := by decide +kernel
theorem dX8_readArguments_12 : decode cX8_readArguments 12 = .ok (.invokevirtual 45, 3) := by decide +kernel
theorem dX8_readArguments_15 : decode cX8_readArguments 15 = .ok (.ifCond .eq 4, 3) := by decide +kernel
theorem dX8_readArguments_18 : decode cX8_readArguments 18 = .ok (.return_, 1) := by decide +kernel
theorem dX8_readArguments_19 : decode cX8_readArguments 19 = .ok (.iconst 1, 1) := by decide +kernel
theorem dX8_readArguments_20 : decode cX8_readArguments 20 = .ok (.istore_n 2, 1) := by decide +kernel
theorem dX8_readArguments_21 : decode cX8_readArguments 21 = .ok (.iconst 0, 1) := by decide +kernel
theorem dX8_readArguments_22 : decode cX8_readArguments 22 = .ok (.istore_n 3, 1) := by decide +kernel
theorem dX8_readArguments_23 : decode cX8_readArguments 23 = .ok (.iload_n 3, 1) := by decide +kernel
theorem dX8_readArguments_24 : decode cX8_readArguments 24 = .ok (.sipush 3000, 3) := by decide +kernel
theorem dX8_readArguments_27 : decode cX8_readArguments 27 = .ok (.if_icmp .ge 25, 3) := by decide +kernel
theorem dX8_readArguments_30 : decode cX8_readArguments 30 = .ok (.iload_n 2, 1) := by decide +kernel
theorem dX8_readArguments_31 : decode cX8_readArguments 31 = .ok (.ifCond .eq 21, 3) := by decide +kernel
theorem dX8_readArguments_34 : decode cX8_readArguments 34 = .ok (.aload_n 0, 1) := by decide +kernel
theorem dX8_readArguments_35 : decode cX8_readArguments 35 = .ok (.iload_n 1, 1) := by decide +kernel
theorem dX8_readArguments_36 : decode cX8_readArguments 36 = .ok (.invokevirtual 83, 3) := by decide +kernel
theorem dX8_readArguments_39 : decode cX8_readArguments 39 = .ok (.aload_n 0, 1) := by decide +kernel
theorem dX8_readArguments_40 : decode cX8_readArguments 40 = .ok (.bipush 47, 2) := by decide +kernel
theorem dX8_readArguments_42 : decode cX8_readArguments 42 = .ok (.invokevirtual 45, 3) := by decide +kernel
theorem dX8_readArguments_45 : decode cX8_readArguments 45 = .ok (.istore_n 2, 1) := by decide +kernel
theorem dX8_readArguments_46 : decode cX8_readArguments 46 = .ok (.iinc 3 1, 3) := by decide +kernel
theorem dX8_readArguments_49 : decode cX8_readArguments 49 = .ok (.goto (-26), 3) := by decide +kernel
theorem dX8_readArguments_52 : decode cX8_readArguments 52 = .ok (.aload_n 0, 1) := by decide +kernel
theorem dX8_readArguments_53 : decode cX8_readArguments 53 = .ok (.bipush 41, 2) := by decide +kernel
theorem dX8_readArguments_55 : decode cX8_readArguments 55 = .ok (.invokevirtual 37, 3) := by decide +kernel
theorem dX8_readArguments_58 : decode cX8_readArguments 58 = .ok (.return_, 1) := by decide +kernel
theorem dX11_hasTwins_0 : decode cX11_hasTwins 0 = .ok (.iconst 0, 1) := by decide +kernel
theorem dX11_hasTwins_1 : decode cX11_hasTwins 1 = .ok (.istore_n 1, 1) := by decide +kernel
theorem dX11_hasTwins_2 : decode cX11_hasTwins 2 = .ok (.iconst 0, 1) := by decide +kernel
theorem dX11_hasTwins_3 : decode cX11_hasTwins 3 = .ok (.istore_n 2, 1) := by decide +kernel
theorem dX11_hasTwins_4 : decode cX11_hasTwins 4 = .ok (.iload_n 2, 1) := by decide +kernel
theorem dX11_hasTwins_5 : decode cX11_hasTwins 5 = .ok (.aload_n 0, 1) := by decide +kernel
theorem dX11_hasTwins_6 : decode cX11_hasTwins 6 = .ok (.getfield 62, 3) := by decide +kernel
theorem dX11_hasTwins_9 : decode cX11_hasTwins 9 = .ok (.getfield 136, 3) := by decide +kernel
theorem dX11_hasTwins_12 : decode cX11_hasTwins 12 = .ok (.if_icmp .ge 62, 3) := by decide +kernel
theorem dX11_hasTwins_15 : decode cX11_hasTwins 15 = .ok (.iconst 0, 1) := by decide +kernel
theorem dX11_hasTwins_16 : decode cX11_hasTwins 16 = .ok (.istore_n 3, 1) := by decide +kernel
theorem dX11_hasTwins_17 : decode cX11_hasTwins 17 = .ok (.iload_n 3, 1) := by decide +kernel
theorem dX11_hasTwins_18 : decode cX11_hasTwins 18 = .ok (.iload_n 2, 1) := by decide +kernel
theorem dX11_hasTwins_19 : decode cX11_hasTwins 19 = .ok (.if_icmp .ge 49, 3) := by decide +kernel
theorem dX11_hasTwins_22 : decode cX11_hasTwins 22 = .ok (.iload_n 1, 1) := by decide +kernel
theorem dX11_hasTwins_23 : decode cX11_hasTwins 23 = .ok (.ifCond .ne 33, 3) := by decide +kernel
theorem dX11_hasTwins_26 : decode cX11_hasTwins 26 = .ok (.aload_n 0, 1) := by decide +kernel
theorem dX11_hasTwins_27 : decode cX11_hasTwins 27 = .ok (.getfield 62, 3) := by decide +kernel
theorem dX11_hasTwins_30 : decode cX11_hasTwins 30 = .ok (.aload_n 0, 1) := by decide +kernel
theorem dX11_hasTwins_31 : decode cX11_hasTwins 31 = .ok (.getfield 62, 3) := by decide +kernel
theorem dX11_hasTwins_34 : decode cX11_hasTwins 34 = .ok (.iload_n 2, 1) := by decide +kernel
theorem dX11_hasTwins_35 : decode cX11_hasTwins 35 = .ok (.invokevirtual 150, 3) := by decide +kernel
theorem dX11_hasTwins_38 : decode cX11_hasTwins 38 = .ok (.aload_n 0, 1) := by decide +kernel
theorem dX11_hasTwins_39 : decode cX11_hasTwins 39 = .ok (.getfield 62, 3) := by decide +kernel
theorem dX11_hasTwins_42 : decode cX11_hasTwins 42 = .ok (.aload_n 0, 1) := by decide +kernel
theorem dX11_hasTwins_43 : decode cX11_hasTwins 43 = .ok (.getfield 62, 3) := by decide +kernel
theorem dX11_hasTwins_46 : decode cX11_hasTwins 46 = .ok (.iload_n 3, 1) := by decide +kernel
theorem dX11_hasTwins_47 : decode cX11_hasTwins 47 = .ok (.invokevirtual 150, 3) := by decide +kernel
theorem dX11_hasTwins_50 : decode cX11_hasTwins 50 = .ok (.invokevirtual 153, 3) := by decide +kernel
theorem dX11_hasTwins_53 : decode cX11_hasTwins 53 = .ok (.ifCond .eq 7, 3) := by decide +kernel
theorem dX11_hasTwins_56 : decode cX11_hasTwins 56 = .ok (.iconst 1, 1) := by decide +kernel
theorem dX11_hasTwins_57 : decode cX11_hasTwins 57 = .ok (.goto 4, 3) := by decide +kernel
theorem dX11_hasTwins_60 : decode cX11_hasTwins 60 = .ok (.iconst 0, 1) := by decide +kernel
theorem dX11_hasTwins_61 : decode cX11_hasTwins 61 = .ok (.istore_n 1, 1) := by decide +kernel
theorem dX11_hasTwins_62 : decode cX11_hasTwins 62 = .ok (.iinc 3 1, 3) := by decide +kernel
theorem dX11_hasTwins_65 : decode cX11_hasTwins 65 = .ok (.goto (-48), 3) := by decide +kernel
theorem dX11_hasTwins_68 : decode cX11_hasTwins 68 = .ok (.iinc 2 1, 3) := by decide +kernel
theorem dX11_hasTwins_71 : decode cX11_hasTwins 71 = .ok (.goto (-67), 3) := by decide +kernel
theorem dX11_hasTwins_74 : decode cX11_hasTwins 74 = .ok (.iconst 0, 1) := by decide +kernel
theorem dX11_hasTwins_75 : decode cX11_hasTwins 75 = .ok (.istore_n 2, 1) := by decide +kernel
theorem dX11_hasTwins_76 : decode cX11_hasTwins 76 = .ok (.iload_n 2, 1) := by decide +kernel
theorem dX11_hasTwins_77 : decode cX11_hasTwins 77 = .ok (.aload_n 0, 1) := by decide +kernel
theorem dX11_hasTwins_78 : decode cX11_hasTwins 78 = .ok (.getfield 62, 3) := by decide +kernel
theorem dX11_hasTwins_81 : decode cX11_hasTwins 81 = .ok (.getfield 100, 3) := by decide +kernel
theorem dX11_hasTwins_84 : decode cX11_hasTwins 84 = .ok (.if_icmp .ge 64, 3) := by decide +kernel
theorem dX11_hasTwins_87 : decode cX11_hasTwins 87 = .ok (.iconst 0, 1) := by decide +kernel
theorem dX11_hasTwins_88 : decode cX11_hasTwins 88 = .ok (.istore_n 3, 1) := by decide +kernel
theorem dX11_hasTwins_89 : decode cX11_hasTwins 89 = .ok (.iload_n 3, 1) := by decide +kernel
theorem dX11_hasTwins_90 : decode cX11_hasTwins 90 = .ok (.iload_n 2, 1) := by decide +kernel
theorem dX11_hasTwins_91 : decode cX11_hasTwins 91 = .ok (.if_icmp .ge 51, 3) := by decide +kernel
theorem dX11_hasTwins_94 : decode cX11_hasTwins 94 = .ok (.iload_n 1, 1) := by decide +kernel
theorem dX11_hasTwins_95 : decode cX11_hasTwins 95 = .ok (.ifCond .ne 35, 3) := by decide +kernel
theorem dX11_hasTwins_98 : decode cX11_hasTwins 98 = .ok (.aload_n 0, 1) := by decide +kernel
theorem dX11_hasTwins_99 : decode cX11_hasTwins 99 = .ok (.getfield 62, 3) := by decide +kernel
theorem dX11_hasTwins_102 : decode cX11_hasTwins 102 = .ok (.aload_n 0, 1) := by decide +kernel
theorem dX11_hasTwins_103 : decode cX11_hasTwins 103 = .ok (.getfield 62, 3) := by decide +kernel
theorem dX11_hasTwins_106 : decode cX11_hasTwins 106 = .ok (.iload_n 2, 1) := by decide +kernel
theorem dX11_hasTwins_107 : decode cX11_hasTwins 107 = .ok (.iconst 1, 1) := by decide +kernel
theorem dX11_hasTwins_108 : decode cX11_hasTwins 108 = .ok (.invokevirtual 146, 3) := by decide +kernel
theorem dX11_hasTwins_111 : decode cX11_hasTwins 111 = .ok (.aload_n 0, 1) := by decide +kernel
theorem dX11_hasTwins_112 : decode cX11_hasTwins 112 = .ok (.getfield 62, 3) := by decide +kernel
theorem dX11_hasTwins_115 : decode cX11_hasTwins 115 = .ok (.aload_n 0, 1) := by decide +kernel
theorem dX11_hasTwins_116 : decode cX11_hasTwins 116 = .ok (.getfield 62, 3) := by decide +kernel
theorem dX11_hasTwins_119 : decode cX11_hasTwins 119 = .ok (.iload_n 3, 1) := by decide +kernel
theorem dX11_hasTwins_120 : decode cX11_hasTwins 120 = .ok (.iconst 1, 1) := by decide +kernel
theorem dX11_hasTwins_121 : decode cX11_hasTwins 121 = .ok (.invokevirtual 146, 3) := by decide +kernel
theorem dX11_hasTwins_124 : decode cX11_hasTwins 124 = .ok (.invokevirtual 153, 3) := by decide +kernel
theorem dX11_hasTwins_127 : decode cX11_hasTwins 127 = .ok (.ifCond .eq 7, 3) := by decide +kernel
theorem dX11_hasTwins_130 : decode cX11_hasTwins 130 = .ok (.iconst 1, 1) := by decide +kernel
theorem dX11_hasTwins_131 : decode cX11_hasTwins 131 = .ok (.goto 4, 3) := by decide +kernel
theorem dX11_hasTwins_134 : decode cX11_hasTwins 134 = .ok (.iconst 0, 1) := by decide +kernel
theorem dX11_hasTwins_135 : decode cX11_hasTwins 135 = .ok (.istore_n 1, 1) := by decide +kernel
theorem dX11_hasTwins_136 : decode cX11_hasTwins 136 = .ok (.iinc 3 1, 3) := by decide +kernel
theorem dX11_hasTwins_139 : decode cX11_hasTwins 139 = .ok (.goto (-50), 3) := by decide +kernel
theorem dX11_hasTwins_142 : decode cX11_hasTwins 142 = .ok (.iinc 2 1, 3) := by decide +kernel
theorem dX11_hasTwins_145 : decode cX11_hasTwins 145 = .ok (.goto (-69), 3) := by decide +kernel
theorem dX11_hasTwins_148 : decode cX11_hasTwins 148 = .ok (.iload_n 1, 1) := by decide +kernel
theorem dX11_hasTwins_149 : decode cX11_hasTwins 149 = .ok (.ireturn, 1) := by decide +kernel
def VS_h8_p0 : List Cond := [Cond.fieldLink RX3 9 "ClassMill$Image" "bytes" "[B", Cond.fieldLink RX3 39 "ClassMill$Image" "size" "I", Cond.code yX3_textAt cX3_textAt 2 (some .int), Cond.methodLink RX3 122 yX3_textAt, Cond.instanceMethod yX3_textAt, Cond.selects RX3 yX3_textAt yX3_textAt, Cond.initialized RX3, Cond.code yX3_textEnd cX3_textEnd 2 (some .int), Cond.methodLink RX3 125 yX3_textEnd, Cond.instanceMethod yX3_textEnd, Cond.selects RX3 yX3_textEnd yX3_textEnd, Cond.code yX3_sameBytes cX3_sameBytes 8 (some .boolean), Cond.methodLink RX3 128 yX3_sameBytes, Cond.instanceMethod yX3_sameBytes, Cond.selects RX3 yX3_sameBytes yX3_sameBytes, Cond.code yX3_of cX3_of 4 (some .int), Cond.methodLink RX11 146 yX3_of, Cond.instanceMethod yX3_of, Cond.selects RX3 yX3_of yX3_of, Cond.code yX3_sameText cX3_sameText 4 (some .boolean), Cond.methodLink RX11 153 yX3_sameText, Cond.instanceMethod yX3_sameText, Cond.selects RX3 yX3_sameText yX3_sameText, Cond.code yX3_fieldName cX3_fieldName 2 (some .int), Cond.methodLink RX11 150 yX3_fieldName, Cond.instanceMethod yX3_fieldName, Cond.selects RX3 yX3_fieldName yX3_fieldName, Cond.fieldLink RX11 62 "ClassMill$Verifier" "image" "LClassMill$Image;", Cond.fieldLink RX11 136 "ClassMill$Image" "fields" "I", Cond.fieldLink RX11 100 "ClassMill$Image" "methods" "I", Cond.code yX4_above cX4_above 2 (some .int), Cond.methodLink RX11 75 yX4_above, Cond.instanceMethod yX4_above, Cond.selects RX4 yX4_above yX4_above, Cond.initialized RX4, Cond.code yX3_tagOf cX3_tagOf 2 (some .int), Cond.methodLink RX11 167 yX3_tagOf, Cond.instanceMethod yX3_tagOf, Cond.selects RX3 yX3_tagOf yX3_tagOf, Cond.code yX3_partOf cX3_partOf 3 (some .int)]
def VS_h8_p1 : List Cond := [Cond.methodLink RX11 177 yX3_partOf, Cond.instanceMethod yX3_partOf, Cond.selects RX3 yX3_partOf yX3_partOf, Cond.methodLink RX11 180 yX3_textAt, Cond.code yX3_byteAt cX3_byteAt 2 (some .int), Cond.methodLink RX11 183 yX3_byteAt, Cond.instanceMethod yX3_byteAt, Cond.selects RX3 yX3_byteAt yX3_byteAt, Cond.code yJ7_fill_53178 cJ7_fill_53178 4 none, Cond.methodLink RX11 258 yJ7_fill_53178, Cond.static yJ7_fill_53178, Cond.initialized RJ7, Cond.code yX11_info cX11_info 2 (some .int), Cond.methodLink RX11 189 yX11_info, Cond.instanceMethod yX11_info, Cond.selects RX11 yX11_info yX11_info, Cond.initialized RX11, Cond.code yX11_at cX11_at 3 (some .int), Cond.methodLink RX11 221 yX11_at, Cond.instanceMethod yX11_at, Cond.selects RX11 yX11_at yX11_at, Cond.code yX11_codeAt cX11_codeAt 2 (some .int), Cond.methodLink RX11 192 yX11_codeAt, Cond.instanceMethod yX11_codeAt, Cond.selects RX11 yX11_codeAt yX11_codeAt, Cond.code yX11_frameAt cX11_frameAt 2 (some .int), Cond.methodLink RX11 242 yX11_frameAt, Cond.instanceMethod yX11_frameAt, Cond.selects RX11 yX11_frameAt yX11_frameAt, Cond.code yX11_fitsFrame cX11_fitsFrame 5 (some .boolean), Cond.methodLink RX11 283 yX11_fitsFrame, Cond.instanceMethod yX11_fitsFrame, Cond.selects RX11 yX11_fitsFrame yX11_fitsFrame, Cond.code yX11_takeFrame cX11_takeFrame 3 none, Cond.methodLink RX11 286 yX11_takeFrame, Cond.instanceMethod yX11_takeFrame, Cond.selects RX11 yX11_takeFrame yX11_takeFrame, Cond.code yX11_fitsHandlers cX11_fitsHandlers 5 (some .boolean), Cond.methodLink RX11 289 yX11_fitsHandlers, Cond.instanceMethod yX11_fitsHandlers]
def VS_h8_p2 : List Cond := [Cond.selects RX11 yX11_fitsHandlers yX11_fitsHandlers, Cond.code yX8_tooDeep cX8_tooDeep 2 (some .boolean), Cond.methodLink RX8 64 yX8_tooDeep, Cond.instanceMethod yX8_tooDeep, Cond.selects RX8 yX8_tooDeep yX8_tooDeep, Cond.initialized RX8, Cond.code yX8_readUnary cX8_readUnary 4 none, Cond.methodLink RX8 86 yX8_readUnary, Cond.instanceMethod yX8_readUnary, Cond.selects RX8 yX8_readUnary yX8_readUnary, Cond.code yX8_binaryAhead cX8_binaryAhead 3 (some .boolean), Cond.methodLink RX8 89 yX8_binaryAhead, Cond.instanceMethod yX8_binaryAhead, Cond.selects RX8 yX8_binaryAhead yX8_binaryAhead, Cond.code yX8_accept cX8_accept 2 (some .boolean), Cond.methodLink RX8 45 yX8_accept, Cond.instanceMethod yX8_accept, Cond.selects RX8 yX8_accept yX8_accept, Cond.code yX8_need cX8_need 2 none, Cond.methodLink RX8 37 yX8_need, Cond.instanceMethod yX8_need, Cond.selects RX8 yX8_need yX8_need, Cond.code yX8_readValue cX8_readValue 4 none, Cond.methodLink RX8 83 yX8_readValue, Cond.instanceMethod yX8_readValue, Cond.selects RX8 yX8_readValue yX8_readValue, Cond.code yX9_kind cX9_kind 1 (some .int), Cond.methodLink RX8 23 yX9_kind, Cond.instanceMethod yX9_kind, Cond.selects RX9 yX9_kind yX9_kind, Cond.initialized RX9, Cond.code yX9_beginsCast cX9_beginsCast 1 (some .boolean), Cond.methodLink RX8 97 yX9_beginsCast, Cond.instanceMethod yX9_beginsCast, Cond.selects RX9 yX9_beginsCast yX9_beginsCast, Cond.code yX8_readPrimary cX8_readPrimary 2 none, Cond.methodLink RX8 100 yX8_readPrimary, Cond.instanceMethod yX8_readPrimary, Cond.selects RX8 yX8_readPrimary yX8_readPrimary, Cond.code yX8_readArguments cX8_readArguments 4 none]
def VS_h8_p3 : List Cond := [Cond.methodLink RX8 103 yX8_readArguments, Cond.instanceMethod yX8_readArguments, Cond.selects RX8 yX8_readArguments yX8_readArguments, Cond.code yX8_readBehind cX8_readBehind 4 none, Cond.methodLink RX8 109 yX8_readBehind, Cond.instanceMethod yX8_readBehind, Cond.selects RX8 yX8_readBehind yX8_readBehind, Cond.code yX8_readNew cX8_readNew 3 none, Cond.methodLink RX8 106 yX8_readNew, Cond.instanceMethod yX8_readNew, Cond.selects RX8 yX8_readNew yX8_readNew, Cond.code yX9_tellHere cX9_tellHere 2 none, Cond.methodLink RX8 33 yX9_tellHere, Cond.instanceMethod yX9_tellHere, Cond.selects RX9 yX9_tellHere yX9_tellHere, Cond.fieldLink RX8 7 "ClassMill$Syntax" "text" "LClassMill$Text;", Cond.fieldLink RX8 30 "ClassMill$Text" "pos" "I", Cond.code yX2_addClass cX2_addClass 2 none, Cond.methodLink RX8 40 yX2_addClass, Cond.instanceMethod yX2_addClass, Cond.selects RX2 yX2_addClass yX2_addClass, Cond.initialized RX2, Cond.code yX8_readType cX8_readType 1 none, Cond.methodLink RX8 52 yX8_readType, Cond.instanceMethod yX8_readType, Cond.selects RX8 yX8_readType yX8_readType, Cond.code yX8_readCondition cX8_readCondition 2 none, Cond.methodLink RX8 67 yX8_readCondition, Cond.instanceMethod yX8_readCondition, Cond.selects RX8 yX8_readCondition yX8_readCondition, Cond.code yX8_readStatement cX8_readStatement 2 none, Cond.methodLink RX8 61 yX8_readStatement, Cond.instanceMethod yX8_readStatement, Cond.selects RX8 yX8_readStatement yX8_readStatement, Cond.code yX8_readTry cX8_readTry 2 none, Cond.methodLink RX8 70 yX8_readTry, Cond.instanceMethod yX8_readTry, Cond.selects RX8 yX8_readTry yX8_readTry, Cond.code yX8_readBlock cX8_readBlock 3 none, Cond.methodLink RX8 58 yX8_readBlock]
def VS_h8_p4 : List Cond := [Cond.instanceMethod yX8_readBlock, Cond.selects RX8 yX8_readBlock yX8_readBlock, Cond.code yX9_beginsVariable cX9_beginsVariable 3 (some .boolean), Cond.methodLink RX8 73 yX9_beginsVariable, Cond.instanceMethod yX9_beginsVariable, Cond.selects RX9 yX9_beginsVariable yX9_beginsVariable, Cond.code yX8_readPlain cX8_readPlain 2 none, Cond.methodLink RX8 80 yX8_readPlain, Cond.instanceMethod yX8_readPlain, Cond.selects RX8 yX8_readPlain yX8_readPlain, Cond.code yX8_readVariable cX8_readVariable 2 none, Cond.methodLink RX8 77 yX8_readVariable, Cond.instanceMethod yX8_readVariable, Cond.selects RX8 yX8_readVariable yX8_readVariable, Cond.fieldLink RX8 19 "ClassMill$Text" "fault" "I", Cond.code yX8_readParameters cX8_readParameters 3 none, Cond.methodLink RX8 55 yX8_readParameters, Cond.instanceMethod yX8_readParameters, Cond.selects RX8 yX8_readParameters yX8_readParameters, Cond.code yX8_readMember cX8_readMember 2 none, Cond.methodLink RX8 49 yX8_readMember, Cond.instanceMethod yX8_readMember, Cond.selects RX8 yX8_readMember yX8_readMember, Cond.fieldLink RX8 13 "ClassMill$Syntax" "heads" "LClassMill$Heads;", Cond.code yX8_readClass cX8_readClass 2 none, Cond.methodLink RX8 27 yX8_readClass, Cond.instanceMethod yX8_readClass, Cond.selects RX8 yX8_readClass yX8_readClass]
def VS_h8 : List Cond := VS_h8_p0 ++ (VS_h8_p1 ++ (VS_h8_p2 ++ (VS_h8_p3 ++ (VS_h8_p4 ++ (wsX30 ++ (VS_h2 ++ (wsX110 ++ (wsX70 ++ (VS_h3 ++ (VS_h7 ++ (VS_h4 ++ (wsX80 ++ (wsX90)))))))))))))
theorem mw_h8_0 : Cond.fieldLink RX3 9 "ClassMill$Image" "bytes" "[B" ∈ VS_h8 := List.mem_append_left _ (List.mem_of_getElem? (i := 0) rfl)
theorem mw_h8_1 : Cond.fieldLink RX3 39 "ClassMill$Image" "size" "I" ∈ VS_h8 := List.mem_append_left _ (List.mem_of_getElem? (i := 1) rfl)
theorem mw_h8_2 : Cond.code yX3_textAt cX3_textAt 2 (some .int) ∈ VS_h8 := List.mem_append_left _ (List.mem_of_getElem? (i := 2) rfl)
theorem mw_h8_3 : Cond.methodLink RX3 122 yX3_textAt ∈ VS_h8 := List.mem_append_left _ (List.mem_of_getElem? (i := 3) rfl)
theorem mw_h8_4 : Cond.instanceMethod yX3_textAt ∈ VS_h8 := List.mem_append_left _ (List.mem_of_getElem? (i := 4) rfl)
theorem mw_h8_5 : Cond.selects RX3 yX3_textAt yX3_textAt ∈ VS_h8 := List.mem_append_left _ (List.mem_of_getElem? (i := 5) rfl)
theorem mw_h8_6 : Cond.initialized RX3 ∈ VS_h8 := List.mem_append_left _ (List.mem_of_getElem? (i := 6) rfl)
theorem mw_h8_7 : Cond.code yX3_textEnd cX3_textEnd 2 (some .int) ∈ VS_h8 := List.mem_append_left _ (List.mem_of_getElem? (i := 7) rfl)
theorem mw_h8_8 : Cond.methodLink RX3 125 yX3_textEnd ∈ VS_h8 := List.mem_append_left _ (List.mem_of_getElem? (i := 8) rfl)
theorem mw_h8_9 : Cond.instanceMethod yX3_textEnd ∈ VS_h8 := List.mem_append_left _ (List.mem_of_getElem? (i := 9) rfl)
theorem mw_h8_10 : Cond.selects RX3 yX3_textEnd yX3_textEnd ∈ VS_h8 := List.mem_append_left _ (List.mem_of_getElem? (i := 10) rfl)
theorem mw_h8_11 : Cond.code yX3_sameBytes cX3_sameBytes 8 (some .boolean) ∈ VS_h8 := List.mem_append_left _ (List.mem_of_getElem? (i := 11) rfl)
theorem mw_h8_12 : Cond.methodLink RX3 128 yX3_sameBytes ∈ VS_h8 := List.mem_append_left _ (List.mem_of_getElem? (i := 12) rfl)
theorem mw_h8_13 : Cond.instanceMethod yX3_sameBytes ∈ VS_h8 := List.mem_append_left _ (List.mem_of_getElem? (i := 13) rfl)
theorem mw_h8_14 : Cond.selects RX3 yX3_sameBytes yX3_sameBytes ∈ VS_h8 := List.mem_append_left _ (List.mem_of_getElem? (i := 14) rfl)
theorem mw_h8_15 : Cond.code yX3_of cX3_of 4 (some .int) ∈ VS_h8 := List.mem_append_left _ (List.mem_of_getElem? (i := 15) rfl)
theorem mw_h8_16 : Cond.methodLink RX11 146 yX3_of ∈ VS_h8 := List.mem_append_left _ (List.mem_of_getElem? (i := 16) rfl)
theorem mw_h8_17 : Cond.instanceMethod yX3_of ∈ VS_h8 := List.mem_append_left _ (List.mem_of_getElem? (i := 17) rfl)
theorem mw_h8_18 : Cond.selects RX3 yX3_of yX3_of ∈ VS_h8 := List.mem_append_left _ (List.mem_of_getElem? (i := 18) rfl)
theorem mw_h8_19 : Cond.code yX3_sameText cX3_sameText 4 (some .boolean) ∈ VS_h8 := List.mem_append_left _ (List.mem_of_getElem? (i := 19) rfl)
theorem mw_h8_20 : Cond.methodLink RX11 153 yX3_sameText ∈ VS_h8 := List.mem_append_left _ (List.mem_of_getElem? (i := 20) rfl)
theorem mw_h8_21 : Cond.instanceMethod yX3_sameText ∈ VS_h8 := List.mem_append_left _ (List.mem_of_getElem? (i := 21) rfl)
theorem mw_h8_22 : Cond.selects RX3 yX3_sameText yX3_sameText ∈ VS_h8 := List.mem_append_left _ (List.mem_of_getElem? (i := 22) rfl)
theorem mw_h8_23 : Cond.code yX3_fieldName cX3_fieldName 2 (some .int) ∈ VS_h8 := List.mem_append_left _ (List.mem_of_getElem? (i := 23) rfl)
theorem mw_h8_24 : Cond.methodLink RX11 150 yX3_fieldName ∈ VS_h8 := List.mem_append_left _ (List.mem_of_getElem? (i := 24) rfl)
theorem mw_h8_25 : Cond.instanceMethod yX3_fieldName ∈ VS_h8 := List.mem_append_left _ (List.mem_of_getElem? (i := 25) rfl)
theorem mw_h8_26 : Cond.selects RX3 yX3_fieldName yX3_fieldName ∈ VS_h8 := List.mem_append_left _ (List.mem_of_getElem? (i := 26) rfl)
theorem mw_h8_27 : Cond.fieldLink RX11 62 "ClassMill$Verifier" "image" "LClassMill$Image;" ∈ VS_h8 := List.mem_append_left _ (List.mem_of_getElem? (i := 27) rfl)
theorem mw_h8_28 : Cond.fieldLink RX11 136 "ClassMill$Image" "fields" "I" ∈ VS_h8 := List.mem_append_left _ (List.mem_of_getElem? (i := 28) rfl)
theorem mw_h8_29 : Cond.fieldLink RX11 100 "ClassMill$Image" "methods" "I" ∈ VS_h8 := List.mem_append_left _ (List.mem_of_getElem? (i := 29) rfl)
theorem mw_h8_30 : Cond.code yX4_above cX4_above 2 (some .int) ∈ VS_h8 := List.mem_append_left _ (List.mem_of_getElem? (i := 30) rfl)
theorem mw_h8_31 : Cond.methodLink RX11 75 yX4_above ∈ VS_h8 := List.mem_append_left _ (List.mem_of_getElem? (i := 31) rfl)
theorem mw_h8_32 : Cond.instanceMethod yX4_above ∈ VS_h8 := List.mem_append_left _ (List.mem_of_getElem? (i := 32) rfl)
theorem mw_h8_33 : Cond.selects RX4 yX4_above yX4_above ∈ VS_h8 := List.mem_append_left _ (List.mem_of_getElem? (i := 33) rfl)
theorem mw_h8_34 : Cond.initialized RX4 ∈ VS_h8 := List.mem_append_left _ (List.mem_of_getElem? (i := 34) rfl)
theorem mw_h8_35 : Cond.code yX3_tagOf cX3_tagOf 2 (some .int) ∈ VS_h8 := List.mem_append_left _ (List.mem_of_getElem? (i := 35) rfl)
theorem mw_h8_36 : Cond.methodLink RX11 167 yX3_tagOf ∈ VS_h8 := List.mem_append_left _ (List.mem_of_getElem? (i := 36) rfl)
theorem mw_h8_37 : Cond.instanceMethod yX3_tagOf ∈ VS_h8 := List.mem_append_left _ (List.mem_of_getElem? (i := 37) rfl)
theorem mw_h8_38 : Cond.selects RX3 yX3_tagOf yX3_tagOf ∈ VS_h8 := List.mem_append_left _ (List.mem_of_getElem? (i := 38) rfl)
theorem mw_h8_39 : Cond.code yX3_partOf cX3_partOf 3 (some .int) ∈ VS_h8 := List.mem_append_left _ (List.mem_of_getElem? (i := 39) rfl)
theorem mw_h8_40 : Cond.methodLink RX11 177 yX3_partOf ∈ VS_h8 := List.mem_append_right _ (List.mem_append_left _ (List.mem_of_getElem? (i := 0) rfl))
theorem mw_h8_41 : Cond.instanceMethod yX3_partOf ∈ VS_h8 := List.mem_append_right _ (List.mem_append_left _ (List.mem_of_getElem? (i := 1) rfl))
theorem mw_h8_42 : Cond.selects RX3 yX3_partOf yX3_partOf ∈ VS_h8 := List.mem_append_right _ (List.mem_append_left _ (List.mem_of_getElem? (i := 2) rfl))
theorem mw_h8_43 : Cond.methodLink RX11 180 yX3_textAt ∈ VS_h8 := List.mem_append_right _ (List.mem_append_left _ (List.mem_of_getElem? (i := 3) rfl))
theorem mw_h8_44 : Cond.code yX3_byteAt cX3_byteAt 2 (some .int) ∈ VS_h8 := List.mem_append_right _ (List.mem_append_left _ (List.mem_of_getElem? (i := 4) rfl))
theorem mw_h8_45 : Cond.methodLink RX11 183 yX3_byteAt ∈ VS_h8 := List.mem_append_right _ (List.mem_append_left _ (List.mem_of_getElem? (i := 5) rfl))
theorem mw_h8_46 : Cond.instanceMethod yX3_byteAt ∈ VS_h8 := List.mem_append_right _ (List.mem_append_left _ (List.mem_of_getElem? (i := 6) rfl))
theorem mw_h8_47 : Cond.selects RX3 yX3_byteAt yX3_byteAt ∈ VS_h8 := List.mem_append_right _ (List.mem_append_left _ (List.mem_of_getElem? (i := 7) rfl))
theorem mw_h8_48 : Cond.code yJ7_fill_53178 cJ7_fill_53178 4 none ∈ VS_h8 := List.mem_append_right _ (List.mem_append_left _ (List.mem_of_getElem? (i := 8) rfl))
theorem mw_h8_49 : Cond.methodLink RX11 258 yJ7_fill_53178 ∈ VS_h8 := List.mem_append_right _ (List.mem_append_left _ (List.mem_of_getElem? (i := 9) rfl))
theorem mw_h8_50 : Cond.static yJ7_fill_53178 ∈ VS_h8 := List.mem_append_right _ (List.mem_append_left _ (List.mem_of_getElem? (i := 10) rfl))
theorem mw_h8_51 : Cond.initialized RJ7 ∈ VS_h8 := List.mem_append_right _ (List.mem_append_left _ (List.mem_of_getElem? (i := 11) rfl))
theorem mw_h8_52 : Cond.code yX11_info cX11_info 2 (some .int) ∈ VS_h8 := List.mem_append_right _ (List.mem_append_left _ (List.mem_of_getElem? (i := 12) rfl))
theorem mw_h8_53 : Cond.methodLink RX11 189 yX11_info ∈ VS_h8 := List.mem_append_right _ (List.mem_append_left _ (List.mem_of_getElem? (i := 13) rfl))
theorem mw_h8_54 : Cond.instanceMethod yX11_info ∈ VS_h8 := List.mem_append_right _ (List.mem_append_left _ (List.mem_of_getElem? (i := 14) rfl))
theorem mw_h8_55 : Cond.selects RX11 yX11_info yX11_info ∈ VS_h8 := List.mem_append_right _ (List.mem_append_left _ (List.mem_of_getElem? (i := 15) rfl))
theorem mw_h8_56 : Cond.initialized RX11 ∈ VS_h8 := List.mem_append_right _ (List.mem_append_left _ (List.mem_of_getElem? (i := 16) rfl))
theorem mw_h8_57 : Cond.code yX11_at cX11_at 3 (some .int) ∈ VS_h8 := List.mem_append_right _ (List.mem_append_left _ (List.mem_of_getElem? (i := 17) rfl))
theorem mw_h8_58 : Cond.methodLink RX11 221 yX11_at ∈ VS_h8 := List.mem_append_right _ (List.mem_append_left _ (List.mem_of_getElem? (i := 18) rfl))
theorem mw_h8_59 : Cond.instanceMethod yX11_at ∈ VS_h8 := List.mem_append_right _ (List.mem_append_left _ (List.mem_of_getElem? (i := 19) rfl))
theorem mw_h8_60 : Cond.selects RX11 yX11_at yX11_at ∈ VS_h8 := List.mem_append_right _ (List.mem_append_left _ (List.mem_of_getElem? (i := 20) rfl))
theorem mw_h8_61 : Cond.code yX11_codeAt cX11_codeAt 2 (some .int) ∈ VS_h8 := List.mem_append_right _ (List.mem_append_left _ (List.mem_of_getElem? (i := 21) rfl))
theorem mw_h8_62 : Cond.methodLink RX11 192 yX11_codeAt ∈ VS_h8 := List.mem_append_right _ (List.mem_append_left _ (List.mem_of_getElem? (i := 22) rfl))
theorem mw_h8_63 : Cond.instanceMethod yX11_codeAt ∈ VS_h8 := List.mem_append_right _ (List.mem_append_left _ (List.mem_of_getElem? (i := 23) rfl))
theorem mw_h8_64 : Cond.selects RX11 yX11_codeAt yX11_codeAt ∈ VS_h8 := List.mem_append_right _ (List.mem_append_left _ (List.mem_of_getElem? (i := 24) rfl))
theorem mw_h8_65 : Cond.code yX11_frameAt cX11_frameAt 2 (some .int) ∈ VS_h8 := List.mem_append_right _ (List.mem_append_left _ (List.mem_of_getElem? (i := 25) rfl))
theorem mw_h8_66 : Cond.methodLink RX11 242 yX11_frameAt ∈ VS_h8 := List.mem_append_right _ (List.mem_append_left _ (List.mem_of_getElem? (i := 26) rfl))
theorem mw_h8_67 : Cond.instanceMethod yX11_frameAt ∈ VS_h8 := List.mem_append_right _ (List.mem_append_left _ (List.mem_of_getElem? (i := 27) rfl))
theorem mw_h8_68 : Cond.selects RX11 yX11_frameAt yX11_frameAt ∈ VS_h8 := List.mem_append_right _ (List.mem_append_left _ (List.mem_of_getElem? (i := 28) rfl))
theorem mw_h8_69 : Cond.code yX11_fitsFrame cX11_fitsFrame 5 (some .boolean) ∈ VS_h8 := List.mem_append_right _ (List.mem_append_left _ (List.mem_of_getElem? (i := 29) rfl))
theorem mw_h8_70 : Cond.methodLink RX11 283 yX11_fitsFrame ∈ VS_h8 := List.mem_append_right _ (List.mem_append_left _ (List.mem_of_getElem? (i := 30) rfl))
theorem mw_h8_71 : Cond.instanceMethod yX11_fitsFrame ∈ VS_h8 := List.mem_append_right _ (List.mem_append_left _ (List.mem_of_getElem? (i := 31) rfl))
theorem mw_h8_72 : Cond.selects RX11 yX11_fitsFrame yX11_fitsFrame ∈ VS_h8 := List.mem_append_right _ (List.mem_append_left _ (List.mem_of_getElem? (i := 32) rfl))
theorem mw_h8_73 : Cond.code yX11_takeFrame cX11_takeFrame 3 none ∈ VS_h8 := List.mem_append_right _ (List.mem_append_left _ (List.mem_of_getElem? (i := 33) rfl))
theorem mw_h8_74 : Cond.methodLink RX11 286 yX11_takeFrame ∈ VS_h8 := List.mem_append_right _ (List.mem_append_left _ (List.mem_of_getElem? (i := 34) rfl))
theorem mw_h8_75 : Cond.instanceMethod yX11_takeFrame ∈ VS_h8 := List.mem_append_right _ (List.mem_append_left _ (List.mem_of_getElem? (i := 35) rfl))
theorem mw_h8_76 : Cond.selects RX11 yX11_takeFrame yX11_takeFrame ∈ VS_h8 := List.mem_append_right _ (List.mem_append_left _ (List.mem_of_getElem? (i := 36) rfl))
theorem mw_h8_77 : Cond.code yX11_fitsHandlers cX11_fitsHandlers 5 (some .boolean) ∈ VS_h8 := List.mem_append_right _ (List.mem_append_left _ (List.mem_of_getElem? (i := 37) rfl))
theorem mw_h8_78 : Cond.methodLink RX11 289 yX11_fitsHandlers ∈ VS_h8 := List.mem_append_right _ (List.mem_append_left _ (List.mem_of_getElem? (i := 38) rfl))
theorem mw_h8_79 : Cond.instanceMethod yX11_fitsHandlers ∈ VS_h8 := List.mem_append_right _ (List.mem_append_left _ (List.mem_of_getElem? (i := 39) rfl))
theorem mw_h8_80 : Cond.selects RX11 yX11_fitsHandlers yX11_fitsHandlers ∈ VS_h8 := List.mem_append_right _ (List.mem_append_right _ (List.mem_append_left _ (List.mem_of_getElem? (i := 0) rfl)))
theorem mw_h8_81 : Cond.code yX8_tooDeep cX8_tooDeep 2 (some .boolean) ∈ VS_h8 := List.mem_append_right _ (List.mem_append_right _ (List.mem_append_left _ (List.mem_of_getElem? (i := 1) rfl)))
theorem mw_h8_82 : Cond.methodLink RX8 64 yX8_tooDeep ∈ VS_h8 := List.mem_append_right _ (List.mem_append_right _ (List.mem_append_left _ (List.mem_of_getElem? (i := 2) rfl)))
theorem mw_h8_83 : Cond.instanceMethod yX8_tooDeep ∈ VS_h8 := List.mem_append_right _ (List.mem_append_right _ (List.mem_append_left _ (List.mem_of_getElem? (i := 3) rfl)))
theorem mw_h8_84 : Cond.selects RX8 yX8_tooDeep yX8_tooDeep ∈ VS_h8 := List.mem_append_right _ (List.mem_append_right _ (List.mem_append_left _ (List.mem_of_getElem? (i := 4) rfl)))
theorem mw_h8_85 : Cond.initialized RX8 ∈ VS_h8 := List.mem_append_right _ (List.mem_append_right _ (List.mem_append_left _ (List.mem_of_getElem? (i := 5) rfl)))
theorem mw_h8_86 : Cond.code yX8_readUnary cX8_readUnary 4 none ∈ VS_h8 := List.mem_append_right _ (List.mem_append_right _ (List.mem_append_left _ (List.mem_of_getElem? (i := 6) rfl)))
theorem mw_h8_87 : Cond.methodLink RX8 86 yX8_readUnary ∈ VS_h8 := List.mem_append_right _ (List.mem_append_right _ (List.mem_append_left _ (List.mem_of_getElem? (i := 7) rfl)))
theorem mw_h8_88 : Cond.instanceMethod yX8_readUnary ∈ VS_h8 := List.mem_append_right _ (List.mem_append_right _ (List.mem_append_left _ (List.mem_of_getElem? (i := 8) rfl)))
theorem mw_h8_89 : Cond.selects RX8 yX8_readUnary yX8_readUnary ∈ VS_h8 := List.mem_append_right _ (List.mem_append_right _ (List.mem_append_left _ (List.mem_of_getElem? (i := 9) rfl)))
theorem mw_h8_90 : Cond.code yX8_binaryAhead cX8_binaryAhead 3 (some .boolean) ∈ VS_h8 := List.mem_append_right _ (List.mem_append_right _ (List.mem_append_left _ (List.mem_of_getElem? (i := 10) rfl)))
theorem mw_h8_91 : Cond.methodLink RX8 89 yX8_binaryAhead ∈ VS_h8 := List.mem_append_right _ (List.mem_append_right _ (List.mem_append_left _ (List.mem_of_getElem? (i := 11) rfl)))
theorem mw_h8_92 : Cond.instanceMethod yX8_binaryAhead ∈ VS_h8 := List.mem_append_right _ (List.mem_append_right _ (List.mem_append_left _ (List.mem_of_getElem? (i := 12) rfl)))
theorem mw_h8_93 : Cond.selects RX8 yX8_binaryAhead yX8_binaryAhead ∈ VS_h8 := List.mem_append_right _ (List.mem_append_right _ (List.mem_append_left _ (List.mem_of_getElem? (i := 13) rfl)))
theorem mw_h8_94 : Cond.code yX8_accept cX8_accept 2 (some .boolean) ∈ VS_h8 := List.mem_append_right _ (List.mem_append_right _ (List.mem_append_left _ (List.mem_of_getElem? (i := 14) rfl)))
theorem mw_h8_95 : Cond.methodLink RX8 45 yX8_accept ∈ VS_h8 := List.mem_append_right _ (List.mem_append_right _ (List.mem_append_left _ (List.mem_of_getElem? (i := 15) rfl)))
theorem mw_h8_96 : Cond.instanceMethod yX8_accept ∈ VS_h8 := List.mem_append_right _ (List.mem_append_right _ (List.mem_append_left _ (List.mem_of_getElem? (i := 16) rfl)))
theorem mw_h8_97 : Cond.selects RX8 yX8_accept yX8_accept ∈ VS_h8 := List.mem_append_right _ (List.mem_append_right _ (List.mem_append_left _ (List.mem_of_getElem? (i := 17) rfl)))
theorem mw_h8_98 : Cond.code yX8_need cX8_need 2 none ∈ VS_h8 := List.mem_append_right _ (List.mem_append_right _ (List.mem_append_left _ (List.mem_of_getElem? (i := 18) rfl)))
theorem mw_h8_99 : Cond.methodLink RX8 37 yX8_need ∈ VS_h8 := List.mem_append_right _ (List.mem_append_right _ (List.mem_append_left _ (List.mem_of_getElem? (i := 19) rfl)))
theorem mw_h8_100 : Cond.instanceMethod yX8_need ∈ VS_h8 := List.mem_append_right _ (List.mem_append_right _ (List.mem_append_left _ (List.mem_of_getElem? (i := 20) rfl)))
theorem mw_h8_101 : Cond.selects RX8 yX8_need yX8_need ∈ VS_h8 := List.mem_append_right _ (List.mem_append_right _ (List.mem_append_left _ (List.mem_of_getElem? (i := 21) rfl)))
theorem mw_h8_102 : Cond.code yX8_readValue cX8_readValue 4 none ∈ VS_h8 := List.mem_append_right _ (List.mem_append_right _ (List.mem_append_left _ (List.mem_of_getElem? (i := 22) rfl)))
theorem mw_h8_103 : Cond.methodLink RX8 83 yX8_readValue ∈ VS_h8 := List.mem_append_right _ (List.mem_append_right _ (List.mem_append_left _ (List.mem_of_getElem? (i := 23) rfl)))
theorem mw_h8_104 : Cond.instanceMethod yX8_readValue ∈ VS_h8 := List.mem_append_right _ (List.mem_append_right _ (List.mem_append_left _ (List.mem_of_getElem? (i := 24) rfl)))
theorem mw_h8_105 : Cond.selects RX8 yX8_readValue yX8_readValue ∈ VS_h8 := List.mem_append_right _ (List.mem_append_right _ (List.mem_append_left _ (List.mem_of_getElem? (i := 25) rfl)))
theorem mw_h8_106 : Cond.code yX9_kind cX9_kind 1 (some .int) ∈ VS_h8 := List.mem_append_right _ (List.mem_append_right _ (List.mem_append_left _ (List.mem_of_getElem? (i := 26) rfl)))
theorem mw_h8_107 : Cond.methodLink RX8 23 yX9_kind ∈ VS_h8 := List.mem_append_right _ (List.mem_append_right _ (List.mem_append_left _ (List.mem_of_getElem? (i := 27) rfl)))
theorem mw_h8_108 : Cond.instanceMethod yX9_kind ∈ VS_h8 := List.mem_append_right _ (List.mem_append_right _ (List.mem_append_left _ (List.mem_of_getElem? (i := 28) rfl)))
theorem mw_h8_109 : Cond.selects RX9 yX9_kind yX9_kind ∈ VS_h8 := List.mem_append_right _ (List.mem_append_right _ (List.mem_append_left _ (List.mem_of_getElem? (i := 29) rfl)))
theorem mw_h8_110 : Cond.initialized RX9 ∈ VS_h8 := List.mem_append_right _ (List.mem_append_right _ (List.mem_append_left _ (List.mem_of_getElem? (i := 30) rfl)))
theorem mw_h8_111 : Cond.code yX9_beginsCast cX9_beginsCast 1 (some .boolean) ∈ VS_h8 := List.mem_append_right _ (List.mem_append_right _ (List.mem_append_left _ (List.mem_of_getElem? (i := 31) rfl)))
theorem mw_h8_112 : Cond.methodLink RX8 97 yX9_beginsCast ∈ VS_h8 := List.mem_append_right _ (List.mem_append_right _ (List.mem_append_left _ (List.mem_of_getElem? (i := 32) rfl)))
theorem mw_h8_113 : Cond.instanceMethod yX9_beginsCast ∈ VS_h8 := List.mem_append_right _ (List.mem_append_right _ (List.mem_append_left _ (List.mem_of_getElem? (i := 33) rfl)))
theorem mw_h8_114 : Cond.selects RX9 yX9_beginsCast yX9_beginsCast ∈ VS_h8 := List.mem_append_right _ (List.mem_append_right _ (List.mem_append_left _ (List.mem_of_getElem? (i := 34) rfl)))
theorem mw_h8_115 : Cond.code yX8_readPrimary cX8_readPrimary 2 none ∈ VS_h8 := List.mem_append_right _ (List.mem_append_right _ (List.mem_append_left _ (List.mem_of_getElem? (i := 35) rfl)))
theorem mw_h8_116 : Cond.methodLink RX8 100 yX8_readPrimary ∈ VS_h8 := List.mem_append_right _ (List.mem_append_right _ (List.mem_append_left _ (List.mem_of_getElem? (i := 36) rfl)))
theorem mw_h8_117 : Cond.instanceMethod yX8_readPrimary ∈ VS_h8 := List.mem_append_right _ (List.mem_append_right _ (List.mem_append_left _ (List.mem_of_getElem? (i := 37) rfl)))
theorem mw_h8_118 : Cond.selects RX8 yX8_readPrimary yX8_readPrimary ∈ VS_h8 := List.mem_append_right _ (List.mem_append_right _ (List.mem_append_left _ (List.mem_of_getElem? (i := 38) rfl)))
theorem mw_h8_119 : Cond.code yX8_readArguments cX8_readArguments 4 none ∈ VS_h8 := List.mem_append_right _ (List.mem_append_right _ (List.mem_append_left _ (List.mem_of_getElem? (i := 39) rfl)))
theorem mw_h8_120 : Cond.methodLink RX8 103 yX8_readArguments ∈ VS_h8 := List.mem_append_right _ (List.mem_append_right _ (List.mem_append_right _ (List.mem_append_left _ (List.mem_of_getElem? (i := 0) rfl))))
theorem mw_h8_121 : Cond.instanceMethod yX8_readArguments ∈ VS_h8 := List.mem_append_right _ (List.mem_append_right _ (List.mem_append_right _ (List.mem_append_left _ (List.mem_of_getElem? (i := 1) rfl))))
theorem mw_h8_122 : Cond.selects RX8 yX8_readArguments yX8_readArguments ∈ VS_h8 := List.mem_append_right _ (List.mem_append_right _ (List.mem_append_right _ (List.mem_append_left _ (List.mem_of_getElem? (i := 2) rfl))))
theorem mw_h8_123 : Cond.code yX8_readBehind cX8_readBehind 4 none ∈ VS_h8 := List.mem_append_right _ (List.mem_append_right _ (List.mem_append_right _ (List.mem_append_left _ (List.mem_of_getElem? (i := 3) rfl))))
theorem mw_h8_124 : Cond.methodLink RX8 109 yX8_readBehind ∈ VS_h8 := List.mem_append_right _ (List.mem_append_right _ (List.mem_append_right _ (List.mem_append_left _ (List.mem_of_getElem? (i := 4) rfl))))
theorem mw_h8_125 : Cond.instanceMethod yX8_readBehind ∈ VS_h8 := List.mem_append_right _ (List.mem_append_right _ (List.mem_append_right _ (List.mem_append_left _ (List.mem_of_getElem? (i := 5) rfl))))
theorem mw_h8_126 : Cond.selects RX8 yX8_readBehind yX8_readBehind ∈ VS_h8 := List.mem_append_right _ (List.mem_append_right _ (List.mem_append_right _ (List.mem_append_left _ (List.mem_of_getElem? (i := 6) rfl))))
theorem mw_h8_127 : Cond.code yX8_readNew cX8_readNew 3 none ∈ VS_h8 := List.mem_append_right _ (List.mem_append_right _ (List.mem_append_right _ (List.mem_append_left _ (List.mem_of_getElem? (i := 7) rfl))))
theorem mw_h8_128 : Cond.methodLink RX8 106 yX8_readNew ∈ VS_h8 := List.mem_append_right _ (List.mem_append_right _ (List.mem_append_right _ (List.mem_append_left _ (List.mem_of_getElem? (i := 8) rfl))))
theorem mw_h8_129 : Cond.instanceMethod yX8_readNew ∈ VS_h8 := List.mem_append_right _ (List.mem_append_right _ (List.mem_append_right _ (List.mem_append_left _ (List.mem_of_getElem? (i := 9) rfl))))
theorem mw_h8_130 : Cond.selects RX8 yX8_readNew yX8_readNew ∈ VS_h8 := List.mem_append_right _ (List.mem_append_right _ (List.mem_append_right _ (List.mem_append_left _ (List.mem_of_getElem? (i := 10) rfl))))
theorem mw_h8_131 : Cond.code yX9_tellHere cX9_tellHere 2 none ∈ VS_h8 := List.mem_append_right _ (List.mem_append_right _ (List.mem_append_right _ (List.mem_append_left _ (List.mem_of_getElem? (i := 11) rfl))))
theorem mw_h8_132 : Cond.methodLink RX8 33 yX9_tellHere ∈ VS_h8 := List.mem_append_right _ (List.mem_append_right _ (List.mem_append_right _ (List.mem_append_left _ (List.mem_of_getElem? (i := 12) rfl))))
theorem mw_h8_133 : Cond.instanceMethod yX9_tellHere ∈ VS_h8 := List.mem_append_right _ (List.mem_append_right _ (List.mem_append_right _ (List.mem_append_left _ (List.mem_of_getElem? (i := 13) rfl))))
theorem mw_h8_134 : Cond.selects RX9 yX9_tellHere yX9_tellHere ∈ VS_h8 := List.mem_append_right _ (List.mem_append_right _ (List.mem_append_right _ (List.mem_append_left _ (List.mem_of_getElem? (i := 14) rfl))))
theorem mw_h8_135 : Cond.fieldLink RX8 7 "ClassMill$Syntax" "text" "LClassMill$Text;" ∈ VS_h8 := List.mem_append_right _ (List.mem_append_right _ (List.mem_append_right _ (List.mem_append_left _ (List.mem_of_getElem? (i := 15) rfl))))
theorem mw_h8_136 : Cond.fieldLink RX8 30 "ClassMill$Text" "pos" "I" ∈ VS_h8 := List.mem_append_right _ (List.mem_append_right _ (List.mem_append_right _ (List.mem_append_left _ (List.mem_of_getElem? (i := 16) rfl))))
theorem mw_h8_137 : Cond.code yX2_addClass cX2_addClass 2 none ∈ VS_h8 := List.mem_append_right _ (List.mem_append_right _ (List.mem_append_right _ (List.mem_append_left _ (List.mem_of_getElem? (i := 17) rfl))))
theorem mw_h8_138 : Cond.methodLink RX8 40 yX2_addClass ∈ VS_h8 := List.mem_append_right _ (List.mem_append_right _ (List.mem_append_right _ (List.mem_append_left _ (List.mem_of_getElem? (i := 18) rfl))))
theorem mw_h8_139 : Cond.instanceMethod yX2_addClass ∈ VS_h8 := List.mem_append_right _ (List.mem_append_right _ (List.mem_append_right _ (List.mem_append_left _ (List.mem_of_getElem? (i := 19) rfl))))
theorem mw_h8_140 : Cond.selects RX2 yX2_addClass yX2_addClass ∈ VS_h8 := List.mem_append_right _ (List.mem_append_right _ (List.mem_append_right _ (List.mem_append_left _ (List.mem_of_getElem? (i := 20) rfl))))
theorem mw_h8_141 : Cond.initialized RX2 ∈ VS_h8 := List.mem_append_right _ (List.mem_append_right _ (List.mem_append_right _ (List.mem_append_left _ (List.mem_of_getElem? (i := 21) rfl))))
theorem mw_h8_142 : Cond.code yX8_readType cX8_readType 1 none ∈ VS_h8 := List.mem_append_right _ (List.mem_append_right _ (List.mem_append_right _ (List.mem_append_left _ (List.mem_of_getElem? (i := 22) rfl))))
theorem mw_h8_143 : Cond.methodLink RX8 52 yX8_readType ∈ VS_h8 := List.mem_append_right _ (List.mem_append_right _ (List.mem_append_right _ (List.mem_append_left _ (List.mem_of_getElem? (i := 23) rfl))))
theorem mw_h8_144 : Cond.instanceMethod yX8_readType ∈ VS_h8 := List.mem_append_right _ (List.mem_append_right _ (List.mem_append_right _ (List.mem_append_left _ (List.mem_of_getElem? (i := 24) rfl))))
theorem mw_h8_145 : Cond.selects RX8 yX8_readType yX8_readType ∈ VS_h8 := List.mem_append_right _ (List.mem_append_right _ (List.mem_append_right _ (List.mem_append_left _ (List.mem_of_getElem? (i := 25) rfl))))
theorem mw_h8_146 : Cond.code yX8_readCondition cX8_readCondition 2 none ∈ VS_h8 := List.mem_append_right _ (List.mem_append_right _ (List.mem_append_right _ (List.mem_append_left _ (List.mem_of_getElem? (i := 26) rfl))))
theorem mw_h8_147 : Cond.methodLink RX8 67 yX8_readCondition ∈ VS_h8 := List.mem_append_right _ (List.mem_append_right _ (List.mem_append_right _ (List.mem_append_left _ (List.mem_of_getElem? (i := 27) rfl))))
theorem mw_h8_148 : Cond.instanceMethod yX8_readCondition ∈ VS_h8 := List.mem_append_right _ (List.mem_append_right _ (List.mem_append_right _ (List.mem_append_left _ (List.mem_of_getElem? (i := 28) rfl))))
theorem mw_h8_149 : Cond.selects RX8 yX8_readCondition yX8_readCondition ∈ VS_h8 := List.mem_append_right _ (List.mem_append_right _ (List.mem_append_right _ (List.mem_append_left _ (List.mem_of_getElem? (i := 29) rfl))))
theorem mw_h8_150 : Cond.code yX8_readStatement cX8_readStatement 2 none ∈ VS_h8 := List.mem_append_right _ (List.mem_append_right _ (List.mem_append_right _ (List.mem_append_left _ (List.mem_of_getElem? (i := 30) rfl))))
theorem mw_h8_151 : Cond.methodLink RX8 61 yX8_readStatement ∈ VS_h8 := List.mem_append_right _ (List.mem_append_right _ (List.mem_append_right _ (List.mem_append_left _ (List.mem_of_getElem? (i := 31) rfl))))
theorem mw_h8_152 : Cond.instanceMethod yX8_readStatement ∈ VS_h8 := List.mem_append_right _ (List.mem_append_right _ (List.mem_append_right _ (List.mem_append_left _ (List.mem_of_getElem? (i := 32) rfl))))
theorem mw_h8_153 : Cond.selects RX8 yX8_readStatement yX8_readStatement ∈ VS_h8 := List.mem_append_right _ (List.mem_append_right _ (List.mem_append_right _ (List.mem_append_left _ (List.mem_of_getElem? (i := 33) rfl))))
theorem mw_h8_154 : Cond.code yX8_readTry cX8_readTry 2 none ∈ VS_h8 := List.mem_append_right _ (List.mem_append_right _ (List.mem_append_right _ (List.mem_append_left _ (List.mem_of_getElem? (i := 34) rfl))))
theorem mw_h8_155 : Cond.methodLink RX8 70 yX8_readTry ∈ VS_h8 := List.mem_append_right _ (List.mem_append_right _ (List.mem_append_right _ (List.mem_append_left _ (List.mem_of_getElem? (i := 35) rfl))))
theorem mw_h8_156 : Cond.instanceMethod yX8_readTry ∈ VS_h8 := List.mem_append_right _ (List.mem_append_right _ (List.mem_append_right _ (List.mem_append_left _ (List.mem_of_getElem? (i := 36) rfl))))
theorem mw_h8_157 : Cond.selects RX8 yX8_readTry yX8_readTry ∈ VS_h8 := List.mem_append_right _ (List.mem_append_right _ (List.mem_append_right _ (List.mem_append_left _ (List.mem_of_getElem? (i := 37) rfl))))
theorem mw_h8_158 : Cond.code yX8_readBlock cX8_readBlock 3 none ∈ VS_h8 := List.mem_append_right _ (List.mem_append_right _ (List.mem_append_right _ (List.mem_append_left _ (List.mem_of_getElem? (i := 38) rfl))))
theorem mw_h8_159 : Cond.methodLink RX8 58 yX8_readBlock ∈ VS_h8 := List.mem_append_right _ (List.mem_append_right _ (List.mem_append_right _ (List.mem_append_left _ (List.mem_of_getElem? (i := 39) rfl))))
theorem mw_h8_160 : Cond.instanceMethod yX8_readBlock ∈ VS_h8 := List.mem_append_right _ (List.mem_append_right _ (List.mem_append_right _ (List.mem_append_right _ (List.mem_append_left _ (List.mem_of_getElem? (i := 0) rfl)))))
theorem mw_h8_161 : Cond.selects RX8 yX8_readBlock yX8_readBlock ∈ VS_h8 := List.mem_append_right _ (List.mem_append_right _ (List.mem_append_right _ (List.mem_append_right _ (List.mem_append_left _ (List.mem_of_getElem? (i := 1) rfl)))))
theorem mw_h8_162 : Cond.code yX9_beginsVariable cX9_beginsVariable 3 (some .boolean) ∈ VS_h8 := List.mem_append_right _ (List.mem_append_right _ (List.mem_append_right _ (List.mem_append_right _ (List.mem_append_left _ (List.mem_of_getElem? (i := 2) rfl)))))
theorem mw_h8_163 : Cond.methodLink RX8 73 yX9_beginsVariable ∈ VS_h8 := List.mem_append_right _ (List.mem_append_right _ (List.mem_append_right _ (List.mem_append_right _ (List.mem_append_left _ (List.mem_of_getElem? (i := 3) rfl)))))
theorem mw_h8_164 : Cond.instanceMethod yX9_beginsVariable ∈ VS_h8 := List.mem_append_right _ (List.mem_append_right _ (List.mem_append_right _ (List.mem_append_right _ (List.mem_append_left _ (List.mem_of_getElem? (i := 4) rfl)))))
theorem mw_h8_165 : Cond.selects RX9 yX9_beginsVariable yX9_beginsVariable ∈ VS_h8 := List.mem_append_right _ (List.mem_append_right _ (List.mem_append_right _ (List.mem_append_right _ (List.mem_append_left _ (List.mem_of_getElem? (i := 5) rfl)))))
theorem mw_h8_166 : Cond.code yX8_readPlain cX8_readPlain 2 none ∈ VS_h8 := List.mem_append_right _ (List.mem_append_right _ (List.mem_append_right _ (List.mem_append_right _ (List.mem_append_left _ (List.mem_of_getElem? (i := 6) rfl)))))
theorem mw_h8_167 : Cond.methodLink RX8 80 yX8_readPlain ∈ VS_h8 := List.mem_append_right _ (List.mem_append_right _ (List.mem_append_right _ (List.mem_append_right _ (List.mem_append_left _ (List.mem_of_getElem? (i := 7) rfl)))))
theorem mw_h8_168 : Cond.instanceMethod yX8_readPlain ∈ VS_h8 := List.mem_append_right _ (List.mem_append_right _ (List.mem_append_right _ (List.mem_append_right _ (List.mem_append_left _ (List.mem_of_getElem? (i := 8) rfl)))))
theorem mw_h8_169 : Cond.selects RX8 yX8_readPlain yX8_readPlain ∈ VS_h8 := List.mem_append_right _ (List.mem_append_right _ (List.mem_append_right _ (List.mem_append_right _ (List.mem_append_left _ (List.mem_of_getElem? (i := 9) rfl)))))
theorem mw_h8_170 : Cond.code yX8_readVariable cX8_readVariable 2 none ∈ VS_h8 := List.mem_append_right _ (List.mem_append_right _ (List.mem_append_right _ (List.mem_append_right _ (List.mem_append_left _ (List.mem_of_getElem? (i := 10) rfl)))))
theorem mw_h8_171 : Cond.methodLink RX8 77 yX8_readVariable ∈ VS_h8 := List.mem_append_right _ (List.mem_append_right _ (List.mem_append_right _ (List.mem_append_right _ (List.mem_append_left _ (List.mem_of_getElem? (i := 11) rfl)))))
theorem mw_h8_172 : Cond.instanceMethod yX8_readVariable ∈ VS_h8 := List.mem_append_right _ (List.mem_append_right _ (List.mem_append_right _ (List.mem_append_right _ (List.mem_append_left _ (List.mem_of_getElem? (i := 12) rfl)))))
theorem mw_h8_173 : Cond.selects RX8 yX8_readVariable yX8_readVariable ∈ VS_h8 := List.mem_append_right _ (List.mem_append_right _ (List.mem_append_right _ (List.mem_append_right _ (List.mem_append_left _ (List.mem_of_getElem? (i := 13) rfl)))))
theorem mw_h8_174 : Cond.fieldLink RX8 19 "ClassMill$Text" "fault" "I" ∈ VS_h8 := List.mem_append_right _ (List.mem_append_right _ (List.mem_append_right _ (List.mem_append_right _ (List.mem_append_left _ (List.mem_of_getElem? (i := 14) rfl)))))
theorem mw_h8_175 : Cond.code yX8_readParameters cX8_readParameters 3 none ∈ VS_h8 := List.mem_append_right _ (List.mem_append_right _ (List.mem_append_right _ (List.mem_append_right _ (List.mem_append_left _ (List.mem_of_getElem? (i := 15) rfl)))))
theorem mw_h8_176 : Cond.methodLink RX8 55 yX8_readParameters ∈ VS_h8 := List.mem_append_right _ (List.mem_append_right _ (List.mem_append_right _ (List.mem_append_right _ (List.mem_append_left _ (List.mem_of_getElem? (i := 16) rfl)))))
theorem mw_h8_177 : Cond.instanceMethod yX8_readParameters ∈ VS_h8 := List.mem_append_right _ (List.mem_append_right _ (List.mem_append_right _ (List.mem_append_right _ (List.mem_append_left _ (List.mem_of_getElem? (i := 17) rfl)))))
theorem mw_h8_178 : Cond.selects RX8 yX8_readParameters yX8_readParameters ∈ VS_h8 := List.mem_append_right _ (List.mem_append_right _ (List.mem_append_right _ (List.mem_append_right _ (List.mem_append_left _ (List.mem_of_getElem? (i := 18) rfl)))))
theorem mw_h8_179 : Cond.code yX8_readMember cX8_readMember 2 none ∈ VS_h8 := List.mem_append_right _ (List.mem_append_right _ (List.mem_append_right _ (List.mem_append_right _ (List.mem_append_left _ (List.mem_of_getElem? (i := 19) rfl)))))
theorem mw_h8_180 : Cond.methodLink RX8 49 yX8_readMember ∈ VS_h8 := List.mem_append_right _ (List.mem_append_right _ (List.mem_append_right _ (List.mem_append_right _ (List.mem_append_left _ (List.mem_of_getElem? (i := 20) rfl)))))
theorem mw_h8_181 : Cond.instanceMethod yX8_readMember ∈ VS_h8 := List.mem_append_right _ (List.mem_append_right _ (List.mem_append_right _ (List.mem_append_right _ (List.mem_append_left _ (List.mem_of_getElem? (i := 21) rfl)))))
theorem mw_h8_182 : Cond.selects RX8 yX8_readMember yX8_readMember ∈ VS_h8 := List.mem_append_right _ (List.mem_append_right _ (List.mem_append_right _ (List.mem_append_right _ (List.mem_append_left _ (List.mem_of_getElem? (i := 22) rfl)))))
theorem mw_h8_183 : Cond.fieldLink RX8 13 "ClassMill$Syntax" "heads" "LClassMill$Heads;" ∈ VS_h8 := List.mem_append_right _ (List.mem_append_right _ (List.mem_append_right _ (List.mem_append_right _ (List.mem_append_left _ (List.mem_of_getElem? (i := 23) rfl)))))
theorem mw_h8_184 : Cond.code yX8_readClass cX8_readClass 2 none ∈ VS_h8 := List.mem_append_right _ (List.mem_append_right _ (List.mem_append_right _ (List.mem_append_right _ (List.mem_append_left _ (List.mem_of_getElem? (i := 24) rfl)))))
theorem mw_h8_185 : Cond.methodLink RX8 27 yX8_readClass ∈ VS_h8 := List.mem_append_right _ (List.mem_append_right _ (List.mem_append_right _ (List.mem_append_right _ (List.mem_append_left _ (List.mem_of_getElem? (i := 25) rfl)))))
theorem mw_h8_186 : Cond.instanceMethod yX8_readClass ∈ VS_h8 := List.mem_append_right _ (List.mem_append_right _ (List.mem_append_right _ (List.mem_append_right _ (List.mem_append_left _ (List.mem_of_getElem? (i := 26) rfl)))))
theorem mw_h8_187 : Cond.selects RX8 yX8_readClass yX8_readClass ∈ VS_h8 := List.mem_append_right _ (List.mem_append_right _ (List.mem_append_right _ (List.mem_append_right _ (List.mem_append_left _ (List.mem_of_getElem? (i := 27) rfl)))))
theorem uV_h8_X3 : ∀ w ∈ u_ws RX3 TX3 14, w ∈ VS_h8 := fun w h => List.mem_append_right _ (List.mem_append_right _ (List.mem_append_right _ (List.mem_append_right _ (List.mem_append_right _ (List.mem_append_left _ (h))))))
theorem uV_h8_X11 : ∀ w ∈ u_ws RX11 TX11 21, w ∈ VS_h8 := fun w h => List.mem_append_right _ (List.mem_append_right _ (List.mem_append_right _ (List.mem_append_right _ (List.mem_append_right _ (List.mem_append_right _ (List.mem_append_right _ (List.mem_append_left _ (h))))))))
theorem uV_h8_X7 : ∀ w ∈ u_ws RX7 TX7 8, w ∈ VS_h8 := fun w h => List.mem_append_right _ (List.mem_append_right _ (List.mem_append_right _ (List.mem_append_right _ (List.mem_append_right _ (List.mem_append_right _ (List.mem_append_right _ (List.mem_append_right _ (List.mem_append_left _ (h)))))))))
theorem uV_h8_X8 : ∀ w ∈ u_ws RX8 TX8 2, w ∈ VS_h8 := fun w h => List.mem_append_right _ (List.mem_append_right _ (List.mem_append_right _ (List.mem_append_right _ (List.mem_append_right _ (List.mem_append_right _ (List.mem_append_right _ (List.mem_append_right _ (List.mem_append_right _ (List.mem_append_right _ (List.mem_append_right _ (List.mem_append_right _ (List.mem_append_left _ (h)))))))))))))
theorem uV_h8_X9 : ∀ w ∈ u_ws RX9 TX9 13, w ∈ VS_h8 := fun w h => List.mem_append_right _ (List.mem_append_right _ (List.mem_append_right _ (List.mem_append_right _ (List.mem_append_right _ (List.mem_append_right _ (List.mem_append_right _ (List.mem_append_right _ (List.mem_append_right _ (List.mem_append_right _ (List.mem_append_right _ (List.mem_append_right _ (List.mem_append_right _ (h)))))))))))))
set_option maxRecDepth 100000 in
theorem gs_h8 : GoodIn VS_h8 VS_h8 := vs_self (by decide +kernel)
set_option maxRecDepth 100000 in
theorem in_h8_VS_h2 : GoodIn VS_h8 VS_h2 := goodIn_sub (fun w h => List.mem_append_right _ (List.mem_append_right _ (List.mem_append_right _ (List.mem_append_right _ (List.mem_append_right _ (List.mem_append_right _ (List.mem_append_left _ (h)))))))) (by decide +kernel)
set_option maxRecDepth 100000 in
theorem in_h8_VS_h3 : GoodIn VS_h8 VS_h3 := goodIn_sub (fun w h => List.mem_append_right _ (List.mem_append_right _ (List.mem_append_right _ (List.mem_append_right _ (List.mem_append_right _ (List.mem_append_right _ (List.mem_append_right _ (List.mem_append_right _ (List.mem_append_right _ (List.mem_append_left _ (h))))))))))) (by decide +kernel)
set_option maxRecDepth 100000 in
theorem in_h8_VS_h7 : GoodIn VS_h8 VS_h7 := goodIn_sub (fun w h => List.mem_append_right _ (List.mem_append_right _ (List.mem_append_right _ (List.mem_append_right _ (List.mem_append_right _ (List.mem_append_right _ (List.mem_append_right _ (List.mem_append_right _ (List.mem_append_right _ (List.mem_append_right _ (List.mem_append_left _ (h)))))))))))) (by decide +kernel)
set_option maxRecDepth 100000 in
theorem in_h8_VS_h4 : GoodIn VS_h8 VS_h4 := goodIn_sub (fun w h => List.mem_append_right _ (List.mem_append_right _ (List.mem_append_right _ (List.mem_append_right _ (List.mem_append_right _ (List.mem_append_right _ (List.mem_append_right _ (List.mem_append_right _ (List.mem_append_right _ (List.mem_append_right _ (List.mem_append_right _ (List.mem_append_left _ (h))))))))))))) (by decide +kernel)
theorem gv_h8_0 : GoodIn VS_h8 (wsV RX3 122 RX3 yX3_textAt (.code yX3_textAt cX3_textAt 2 (some .int) :: VS_h2)) := goodIn_app (vs_in4 mw_h8_3 mw_h8_4 mw_h8_5 mw_h8_6 (by decide +kernel)) (vs_cons mw_h8_2 (by decide +kernel) in_h8_VS_h2)
theorem gv_h8_1 : GoodIn VS_h8 (wsV RX3 125 RX3 yX3_textEnd (.code yX3_textEnd cX3_textEnd 2 (some .int) :: VS_h2)) := goodIn_app (vs_in4 mw_h8_8 mw_h8_9 mw_h8_10 mw_h8_6 (by decide +kernel)) (vs_cons mw_h8_7 (by decide +kernel) in_h8_VS_h2)
theorem gv_h8_2 : GoodIn VS_h8 (wsV RX3 128 RX3 yX3_sameBytes (.code yX3_sameBytes cX3_sameBytes 8 (some .boolean) :: VS_h8)) := goodIn_app (vs_in4 mw_h8_12 mw_h8_13 mw_h8_14 mw_h8_6 (by decide +kernel)) (vs_cons mw_h8_11 (by decide +kernel) gs_h8)
theorem gv_h8_3 : GoodIn VS_h8 (wsV RX11 146 RX3 yX3_of (.code yX3_of cX3_of 4 (some .int) :: VS_h3)) := goodIn_app (vs_in4 mw_h8_16 mw_h8_17 mw_h8_18 mw_h8_6 (by decide +kernel)) (vs_cons mw_h8_15 (by decide +kernel) in_h8_VS_h3)
theorem gv_h8_4 : GoodIn VS_h8 (wsV RX11 153 RX3 yX3_sameText (.code yX3_sameText cX3_sameText 4 (some .boolean) :: VS_h8)) := goodIn_app (vs_in4 mw_h8_20 mw_h8_21 mw_h8_22 mw_h8_6 (by decide +kernel)) (vs_cons mw_h8_19 (by decide +kernel) gs_h8)
theorem gv_h8_5 : GoodIn VS_h8 (wsV RX11 150 RX3 yX3_fieldName (.code yX3_fieldName cX3_fieldName 2 (some .int) :: VS_h2)) := goodIn_app (vs_in4 mw_h8_24 mw_h8_25 mw_h8_26 mw_h8_6 (by decide +kernel)) (vs_cons mw_h8_23 (by decide +kernel) in_h8_VS_h2)
theorem gv_h8_6 : GoodIn VS_h8 (wsV RX11 75 RX4 yX4_above (.code yX4_above cX4_above 2 (some .int) :: VS_h2)) := goodIn_app (vs_in4 mw_h8_31 mw_h8_32 mw_h8_33 mw_h8_34 (by decide +kernel)) (vs_cons mw_h8_30 (by decide +kernel) in_h8_VS_h2)
theorem gv_h8_7 : GoodIn VS_h8 (wsV RX11 167 RX3 yX3_tagOf (.code yX3_tagOf cX3_tagOf 2 (some .int) :: VS_h2)) := goodIn_app (vs_in4 mw_h8_36 mw_h8_37 mw_h8_38 mw_h8_6 (by decide +kernel)) (vs_cons mw_h8_35 (by decide +kernel) in_h8_VS_h2)
theorem gv_h8_8 : GoodIn VS_h8 (wsV RX11 177 RX3 yX3_partOf (.code yX3_partOf cX3_partOf 3 (some .int) :: VS_h2)) := goodIn_app (vs_in4 mw_h8_40 mw_h8_41 mw_h8_42 mw_h8_6 (by decide +kernel)) (vs_cons mw_h8_39 (by decide +kernel) in_h8_VS_h2)
theorem gv_h8_9 : GoodIn VS_h8 (wsV RX11 180 RX3 yX3_textAt (.code yX3_textAt cX3_textAt 2 (some .int) :: VS_h2)) := goodIn_app (vs_in4 mw_h8_43 mw_h8_4 mw_h8_5 mw_h8_6 (by decide +kernel)) (vs_cons mw_h8_2 (by decide +kernel) in_h8_VS_h2)
theorem gv_h8_10 : GoodIn VS_h8 (wsV RX11 183 RX3 yX3_byteAt (.code yX3_byteAt cX3_byteAt 2 (some .int) :: VS_h2)) := goodIn_app (vs_in4 mw_h8_45 mw_h8_46 mw_h8_47 mw_h8_6 (by decide +kernel)) (vs_cons mw_h8_44 (by decide +kernel) in_h8_VS_h2)
theorem gv_h8_11 : GoodIn VS_h8 (va_wsS RX11 258 yJ7_fill_53178 (.code yJ7_fill_53178 cJ7_fill_53178 4 none :: VS_h7)) := goodIn_app (vs_in3 mw_h8_49 mw_h8_50 mw_h8_51 (by decide +kernel)) (vs_cons mw_h8_48 (by decide +kernel) in_h8_VS_h7)
theorem gv_h8_12 : GoodIn VS_h8 (wsV RX11 189 RX11 yX11_info (.code yX11_info cX11_info 2 (some .int) :: VS_h3)) := goodIn_app (vs_in4 mw_h8_53 mw_h8_54 mw_h8_55 mw_h8_56 (by decide +kernel)) (vs_cons mw_h8_52 (by decide +kernel) in_h8_VS_h3)
theorem gv_h8_13 : GoodIn VS_h8 (wsV RX11 221 RX11 yX11_at (.code yX11_at cX11_at 3 (some .int) :: VS_h3)) := goodIn_app (vs_in4 mw_h8_58 mw_h8_59 mw_h8_60 mw_h8_56 (by decide +kernel)) (vs_cons mw_h8_57 (by decide +kernel) in_h8_VS_h3)
theorem gv_h8_14 : GoodIn VS_h8 (wsV RX11 192 RX11 yX11_codeAt (.code yX11_codeAt cX11_codeAt 2 (some .int) :: VS_h3)) := goodIn_app (vs_in4 mw_h8_62 mw_h8_63 mw_h8_64 mw_h8_56 (by decide +kernel)) (vs_cons mw_h8_61 (by decide +kernel) in_h8_VS_h3)
theorem gv_h8_15 : GoodIn VS_h8 (wsV RX11 242 RX11 yX11_frameAt (.code yX11_frameAt cX11_frameAt 2 (some .int) :: VS_h3)) := goodIn_app (vs_in4 mw_h8_66 mw_h8_67 mw_h8_68 mw_h8_56 (by decide +kernel)) (vs_cons mw_h8_65 (by decide +kernel) in_h8_VS_h3)
theorem gv_h8_16 : GoodIn VS_h8 (wsV RX11 283 RX11 yX11_fitsFrame (.code yX11_fitsFrame cX11_fitsFrame 5 (some .boolean) :: VS_h7)) := goodIn_app (vs_in4 mw_h8_70 mw_h8_71 mw_h8_72 mw_h8_56 (by decide +kernel)) (vs_cons mw_h8_69 (by decide +kernel) in_h8_VS_h7)
theorem gv_h8_17 : GoodIn VS_h8 (wsV RX11 286 RX11 yX11_takeFrame (.code yX11_takeFrame cX11_takeFrame 3 none :: VS_h7)) := goodIn_app (vs_in4 mw_h8_74 mw_h8_75 mw_h8_76 mw_h8_56 (by decide +kernel)) (vs_cons mw_h8_73 (by decide +kernel) in_h8_VS_h7)
theorem gv_h8_18 : GoodIn VS_h8 (wsV RX11 289 RX11 yX11_fitsHandlers (.code yX11_fitsHandlers cX11_fitsHandlers 5 (some .boolean) :: VS_h3)) := goodIn_app (vs_in4 mw_h8_78 mw_h8_79 mw_h8_80 mw_h8_56 (by decide +kernel)) (vs_cons mw_h8_77 (by decide +kernel) in_h8_VS_h3)
theorem gv_h8_19 : GoodIn VS_h8 (wsV RX8 64 RX8 yX8_tooDeep (.code yX8_tooDeep cX8_tooDeep 2 (some .boolean) :: VS_h4)) := goodIn_app (vs_in4 mw_h8_82 mw_h8_83 mw_h8_84 mw_h8_85 (by decide +kernel)) (vs_cons mw_h8_81 (by decide +kernel) in_h8_VS_h4)
theorem gv_h8_20 : GoodIn VS_h8 (wsV RX8 86 RX8 yX8_readUnary (.code yX8_readUnary cX8_readUnary 4 none :: VS_h8)) := goodIn_app (vs_in4 mw_h8_87 mw_h8_88 mw_h8_89 mw_h8_85 (by decide +kernel)) (vs_cons mw_h8_86 (by decide +kernel) gs_h8)
theorem gv_h8_21 : GoodIn VS_h8 (wsV RX8 89 RX8 yX8_binaryAhead (.code yX8_binaryAhead cX8_binaryAhead 3 (some .boolean) :: VS_h4)) := goodIn_app (vs_in4 mw_h8_91 mw_h8_92 mw_h8_93 mw_h8_85 (by decide +kernel)) (vs_cons mw_h8_90 (by decide +kernel) in_h8_VS_h4)
theorem gv_h8_22 : GoodIn VS_h8 (wsV RX8 45 RX8 yX8_accept (.code yX8_accept cX8_accept 2 (some .boolean) :: VS_h4)) := goodIn_app (vs_in4 mw_h8_95 mw_h8_96 mw_h8_97 mw_h8_85 (by decide +kernel)) (vs_cons mw_h8_94 (by decide +kernel) in_h8_VS_h4)
theorem gv_h8_23 : GoodIn VS_h8 (wsV RX8 37 RX8 yX8_need (.code yX8_need cX8_need 2 none :: VS_h4)) := goodIn_app (vs_in4 mw_h8_99 mw_h8_100 mw_h8_101 mw_h8_85 (by decide +kernel)) (vs_cons mw_h8_98 (by decide +kernel) in_h8_VS_h4)
theorem gv_h8_24 : GoodIn VS_h8 (wsV RX8 83 RX8 yX8_readValue (.code yX8_readValue cX8_readValue 4 none :: VS_h8)) := goodIn_app (vs_in4 mw_h8_103 mw_h8_104 mw_h8_105 mw_h8_85 (by decide +kernel)) (vs_cons mw_h8_102 (by decide +kernel) gs_h8)
theorem gv_h8_25 : GoodIn VS_h8 (wsV RX8 23 RX9 yX9_kind (.code yX9_kind cX9_kind 1 (some .int) :: VS_h4)) := goodIn_app (vs_in4 mw_h8_107 mw_h8_108 mw_h8_109 mw_h8_110 (by decide +kernel)) (vs_cons mw_h8_106 (by decide +kernel) in_h8_VS_h4)
theorem gv_h8_26 : GoodIn VS_h8 (wsV RX8 97 RX9 yX9_beginsCast (.code yX9_beginsCast cX9_beginsCast 1 (some .boolean) :: VS_h4)) := goodIn_app (vs_in4 mw_h8_112 mw_h8_113 mw_h8_114 mw_h8_110 (by decide +kernel)) (vs_cons mw_h8_111 (by decide +kernel) in_h8_VS_h4)
theorem gv_h8_27 : GoodIn VS_h8 (wsV RX8 100 RX8 yX8_readPrimary (.code yX8_readPrimary cX8_readPrimary 2 none :: VS_h8)) := goodIn_app (vs_in4 mw_h8_116 mw_h8_117 mw_h8_118 mw_h8_85 (by decide +kernel)) (vs_cons mw_h8_115 (by decide +kernel) gs_h8)
theorem gv_h8_28 : GoodIn VS_h8 (wsV RX8 103 RX8 yX8_readArguments (.code yX8_readArguments cX8_readArguments 4 none :: VS_h8)) := goodIn_app (vs_in4 mw_h8_120 mw_h8_121 mw_h8_122 mw_h8_85 (by decide +kernel)) (vs_cons mw_h8_119 (by decide +kernel) gs_h8)
theorem gv_h8_29 : GoodIn VS_h8 (wsV RX8 109 RX8 yX8_readBehind (.code yX8_readBehind cX8_readBehind 4 none :: VS_h8)) := goodIn_app (vs_in4 mw_h8_124 mw_h8_125 mw_h8_126 mw_h8_85 (by decide +kernel)) (vs_cons mw_h8_123 (by decide +kernel) gs_h8)
theorem gv_h8_30 : GoodIn VS_h8 (wsV RX8 106 RX8 yX8_readNew (.code yX8_readNew cX8_readNew 3 none :: VS_h8)) := goodIn_app (vs_in4 mw_h8_128 mw_h8_129 mw_h8_130 mw_h8_85 (by decide +kernel)) (vs_cons mw_h8_127 (by decide +kernel) gs_h8)
theorem gv_h8_31 : GoodIn VS_h8 (wsV RX8 33 RX9 yX9_tellHere (.code yX9_tellHere cX9_tellHere 2 none :: VS_h4)) := goodIn_app (vs_in4 mw_h8_132 mw_h8_133 mw_h8_134 mw_h8_110 (by decide +kernel)) (vs_cons mw_h8_131 (by decide +kernel) in_h8_VS_h4)
theorem gv_h8_32 : GoodIn VS_h8 (wsV RX8 40 RX2 yX2_addClass (.code yX2_addClass cX2_addClass 2 none :: VS_h4)) := goodIn_app (vs_in4 mw_h8_138 mw_h8_139 mw_h8_140 mw_h8_141 (by decide +kernel)) (vs_cons mw_h8_137 (by decide +kernel) in_h8_VS_h4)
theorem gv_h8_33 : GoodIn VS_h8 (wsV RX8 52 RX8 yX8_readType (.code yX8_readType cX8_readType 1 none :: VS_h4)) := goodIn_app (vs_in4 mw_h8_143 mw_h8_144 mw_h8_145 mw_h8_85 (by decide +kernel)) (vs_cons mw_h8_142 (by decide +kernel) in_h8_VS_h4)
theorem gv_h8_34 : GoodIn VS_h8 (wsV RX8 83 RX8 yX8_readValue (.code yX8_readValue cX8_readValue 4 none :: VS_h8)) := goodIn_app (vs_in4 mw_h8_103 mw_h8_104 mw_h8_105 mw_h8_85 (by decide +kernel)) (vs_cons mw_h8_102 (by decide +kernel) gs_h8)
theorem gv_h8_35 : GoodIn VS_h8 (wsV RX8 67 RX8 yX8_readCondition (.code yX8_readCondition cX8_readCondition 2 none :: VS_h8)) := goodIn_app (vs_in4 mw_h8_147 mw_h8_148 mw_h8_149 mw_h8_85 (by decide +kernel)) (vs_cons mw_h8_146 (by decide +kernel) gs_h8)
theorem gv_h8_36 : GoodIn VS_h8 (wsV RX8 61 RX8 yX8_readStatement (.code yX8_readStatement cX8_readStatement 2 none :: VS_h8)) := goodIn_app (vs_in4 mw_h8_151 mw_h8_152 mw_h8_153 mw_h8_85 (by decide +kernel)) (vs_cons mw_h8_150 (by decide +kernel) gs_h8)
theorem gv_h8_37 : GoodIn VS_h8 (wsV RX8 70 RX8 yX8_readTry (.code yX8_readTry cX8_readTry 2 none :: VS_h8)) := goodIn_app (vs_in4 mw_h8_155 mw_h8_156 mw_h8_157 mw_h8_85 (by decide +kernel)) (vs_cons mw_h8_154 (by decide +kernel) gs_h8)
theorem gv_h8_38 : GoodIn VS_h8 (wsV RX8 58 RX8 yX8_readBlock (.code yX8_readBlock cX8_readBlock 3 none :: VS_h8)) := goodIn_app (vs_in4 mw_h8_159 mw_h8_160 mw_h8_161 mw_h8_85 (by decide +kernel)) (vs_cons mw_h8_158 (by decide +kernel) gs_h8)
theorem gv_h8_39 : GoodIn VS_h8 (wsV RX8 73 RX9 yX9_beginsVariable (.code yX9_beginsVariable cX9_beginsVariable 3 (some .boolean) :: VS_h4)) := goodIn_app (vs_in4 mw_h8_163 mw_h8_164 mw_h8_165 mw_h8_110 (by decide +kernel)) (vs_cons mw_h8_162 (by decide +kernel) in_h8_VS_h4)
theorem gv_h8_40 : GoodIn VS_h8 (wsV RX8 80 RX8 yX8_readPlain (.code yX8_readPlain cX8_readPlain 2 none :: VS_h8)) := goodIn_app (vs_in4 mw_h8_167 mw_h8_168 mw_h8_169 mw_h8_85 (by decide +kernel)) (vs_cons mw_h8_166 (by decide +kernel) gs_h8)
theorem gv_h8_41 : GoodIn VS_h8 (wsV RX8 77 RX8 yX8_readVariable (.code yX8_readVariable cX8_readVariable 2 none :: VS_h8)) := goodIn_app (vs_in4 mw_h8_171 mw_h8_172 mw_h8_173 mw_h8_85 (by decide +kernel)) (vs_cons mw_h8_170 (by decide +kernel) gs_h8)
theorem gv_h8_42 : GoodIn VS_h8 (wsV RX8 58 RX8 yX8_readBlock (.code yX8_readBlock cX8_readBlock 3 none :: VS_h8)) := goodIn_app (vs_in4 mw_h8_159 mw_h8_160 mw_h8_161 mw_h8_85 (by decide +kernel)) (vs_cons mw_h8_158 (by decide +kernel) gs_h8)
theorem gv_h8_43 : GoodIn VS_h8 (wsV RX8 55 RX8 yX8_readParameters (.code yX8_readParameters cX8_readParameters 3 none :: VS_h4)) := goodIn_app (vs_in4 mw_h8_176 mw_h8_177 mw_h8_178 mw_h8_85 (by decide +kernel)) (vs_cons mw_h8_175 (by decide +kernel) in_h8_VS_h4)
theorem gv_h8_44 : GoodIn VS_h8 (wsV RX8 49 RX8 yX8_readMember (.code yX8_readMember cX8_readMember 2 none :: VS_h8)) := goodIn_app (vs_in4 mw_h8_180 mw_h8_181 mw_h8_182 mw_h8_85 (by decide +kernel)) (vs_cons mw_h8_179 (by decide +kernel) gs_h8)
theorem gv_h8_45 : GoodIn VS_h8 (wsV RX8 27 RX8 yX8_readClass (.code yX8_readClass cX8_readClass 2 none :: VS_h8)) := goodIn_app (vs_in4 mw_h8_185 mw_h8_186 mw_h8_187 mw_h8_85 (by decide +kernel)) (vs_cons mw_h8_184 (by decide +kernel) gs_h8)
