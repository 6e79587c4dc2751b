abbrev cX0_beginProgram : ByteArray := prog_2_method_3_code
def yX0_beginProgram : MethodName := ⟨RX0, "beginProgram", "()V"⟩
abbrev cX0_closeProgram : ByteArray := prog_2_method_4_code
def yX0_closeProgram : MethodName := ⟨RX0, "closeProgram", "()V"⟩
abbrev cX2_forget : ByteArray := prog_4_method_2_code
def yX2_forget : MethodName := ⟨RX2, "forget", "()V"⟩
abbrev cX2_addClass : ByteArray := prog_4_method_3_code
def yX2_addClass : MethodName := ⟨RX2, "addClass", "(I)V"⟩
abbrev cX2_readClasses : ByteArray := prog_4_method_4_code
def yX2_readClasses : MethodName := ⟨RX2, "readClasses", "()V"⟩
abbrev cX2_readMembers : ByteArray := prog_4_method_5_code
def yX2_readMembers : MethodName := ⟨RX2, "readMembers", "()V"⟩
abbrev cX2_checkOverrides : ByteArray := prog_4_method_6_code
def yX2_checkOverrides : MethodName := ⟨RX2, "checkOverrides", "()V"⟩
abbrev cX2_nameKinds : ByteArray := prog_4_method_7_code
def yX2_nameKinds : MethodName := ⟨RX2, "nameKinds", "()V"⟩
abbrev cX3_read : ByteArray := prog_5_method_2_code
def yX3_read : MethodName := ⟨RX3, "read", "([BI)I"⟩
abbrev cX3_bad : ByteArray := prog_5_method_5_code
def yX3_bad : MethodName := ⟨RX3, "bad", "(I)V"⟩
abbrev cX3_next : ByteArray := prog_5_method_6_code
def yX3_next : MethodName := ⟨RX3, "next", "()I"⟩
abbrev cX3_nextUpTo : ByteArray := prog_5_method_7_code
def yX3_nextUpTo : MethodName := ⟨RX3, "nextUpTo", "(II)I"⟩
abbrev cX3_readConstants : ByteArray := prog_5_method_9_code
def yX3_readConstants : MethodName := ⟨RX3, "readConstants", "()V"⟩
abbrev cX3_tagOf : ByteArray := prog_5_method_12_code
def yX3_tagOf : MethodName := ⟨RX3, "tagOf", "(I)I"⟩
abbrev cX3_partOf : ByteArray := prog_5_method_15_code
def yX3_partOf : MethodName := ⟨RX3, "partOf", "(II)I"⟩
abbrev cX3_nextPlainClass : ByteArray := prog_5_method_28_code
def yX3_nextPlainClass : MethodName := ⟨RX3, "nextPlainClass", "()I"⟩
abbrev cX3_readFields : ByteArray := prog_5_method_30_code
def yX3_readFields : MethodName := ⟨RX3, "readFields", "()V"⟩
abbrev cX4_above : ByteArray := prog_6_method_3_code
def yX4_above : MethodName := ⟨RX4, "above", "(I)I"⟩
abbrev cX4_isClass : ByteArray := prog_6_method_6_code
def yX4_isClass : MethodName := ⟨RX4, "isClass", "(I)Z"⟩
abbrev cX5_forget : ByteArray := prog_7_method_2_code
def yX5_forget : MethodName := ⟨RX5, "forget", "()V"⟩
abbrev cX5_go : ByteArray := prog_7_method_4_code
def yX5_go : MethodName := ⟨RX5, "go", "(I)I"⟩
abbrev cX5_tell : ByteArray := prog_7_method_5_code
def yX5_tell : MethodName := ⟨RX5, "tell", "(I)I"⟩
abbrev cX5_tellTop : ByteArray := prog_7_method_6_code
def yX5_tellTop : MethodName := ⟨RX5, "tellTop", "(I)I"⟩
abbrev cX5_printedAt : ByteArray := prog_7_method_7_code
def yX5_printedAt : MethodName := ⟨RX5, "printedAt", "(I)I"⟩
abbrev cX7_forget : ByteArray := prog_9_method_2_code
def yX7_forget : MethodName := ⟨RX7, "forget", "()V"⟩
abbrev cX7_imageOf : ByteArray := prog_9_method_3_code
def yX7_imageOf : MethodName := ⟨RX7, "imageOf", "(I)LClassMill$Image;"⟩
abbrev cX7_bring : ByteArray := prog_9_method_4_code
def yX7_bring : MethodName := ⟨RX7, "bring", "([BI)I"⟩
abbrev cX7_change : ByteArray := prog_9_method_7_code
def yX7_change : MethodName := ⟨RX7, "change", "(III)Z"⟩
abbrev cX7_linkAll : ByteArray := prog_9_method_17_code
def yX7_linkAll : MethodName := ⟨RX7, "linkAll", "()V"⟩
abbrev cX7_cellsAbove : ByteArray := prog_9_method_18_code
def yX7_cellsAbove : MethodName := ⟨RX7, "cellsAbove", "(I)I"⟩
abbrev cX8_readProgram : ByteArray := prog_10_method_2_code
def yX8_readProgram : MethodName := ⟨RX8, "readProgram", "()V"⟩
abbrev cX8_need : ByteArray := prog_10_method_3_code
def yX8_need : MethodName := ⟨RX8, "need", "(I)V"⟩
abbrev cX8_accept : ByteArray := prog_10_method_4_code
def yX8_accept : MethodName := ⟨RX8, "accept", "(I)Z"⟩
abbrev cX8_readClass : ByteArray := prog_10_method_6_code
def yX8_readClass : MethodName := ⟨RX8, "readClass", "()V"⟩
abbrev cX9_tellHere : ByteArray := prog_11_method_6_code
def yX9_tellHere : MethodName := ⟨RX9, "tellHere", "(I)V"⟩
abbrev cX9_kind : ByteArray := prog_11_method_9_code
def yX9_kind : MethodName := ⟨RX9, "kind", "()I"⟩
abbrev cX9_scan : ByteArray := prog_11_method_12_code
def yX9_scan : MethodName := ⟨RX9, "scan", "([BI)V"⟩
abbrev cX9_addToken : ByteArray := prog_11_method_13_code
def yX9_addToken : MethodName := ⟨RX9, "addToken", "(III)V"⟩
abbrev cX9_behindBlanks : ByteArray := prog_11_method_14_code
def yX9_behindBlanks : MethodName := ⟨RX9, "behindBlanks", "([BII)I"⟩
abbrev cX11_proveHeads : ByteArray := prog_13_method_2_code
def yX11_proveHeads : MethodName := ⟨RX11, "proveHeads", "()I"⟩
abbrev cX11_proveMethods : ByteArray := prog_13_method_3_code
def yX11_proveMethods : MethodName := ⟨RX11, "proveMethods", "()I"⟩
abbrev cX12_feed : ByteArray := prog_1_method_2_code
def yX12_feed : MethodName := ⟨RX12, "feed", "(IIIII)I"⟩
abbrev cX12_putNumber : ByteArray := prog_1_method_3_code
def yX12_putNumber : MethodName := ⟨RX12, "putNumber", "(I)V"⟩
abbrev cX12_end : ByteArray := prog_1_method_4_code
def yX12_end : MethodName := ⟨RX12, "end", "(I)Z"⟩
abbrev cX12_compile : ByteArray := prog_1_method_5_code
def yX12_compile : MethodName := ⟨RX12, "compile", "()I"⟩
abbrev cX12_fault : ByteArray := prog_1_method_7_code
def yX12_fault : MethodName := ⟨RX12, "fault", "(I)I"⟩
abbrev cX12_imageOf : ByteArray := prog_1_method_8_code
def yX12_imageOf : MethodName := ⟨RX12, "imageOf", "(I)[B"⟩
abbrev cX12_image : ByteArray := prog_1_method_9_code
def yX12_image : MethodName := ⟨RX12, "image", "(II)I"⟩
abbrev cX12_load : ByteArray := prog_1_method_10_code
def yX12_load : MethodName := ⟨RX12, "load", "()I"⟩
abbrev cX12_keep : ByteArray := prog_1_method_11_code
def yX12_keep : MethodName := ⟨RX12, "keep", "(I)I"⟩
abbrev cX12_patch : ByteArray := prog_1_method_12_code
def yX12_patch : MethodName := ⟨RX12, "patch", "(III)Z"⟩
abbrev cX12_clear : ByteArray := prog_1_method_13_code
def yX12_clear : MethodName := ⟨RX12, "clear", "()V"⟩
abbrev cX12_verify : ByteArray := prog_1_method_14_code
def yX12_verify : MethodName := ⟨RX12, "verify", "()I"⟩
abbrev cX12_where : ByteArray := prog_1_method_15_code
def yX12_where : MethodName := ⟨RX12, "where", "(I)I"⟩
abbrev cX12_start : ByteArray := prog_1_method_16_code
def yX12_start : MethodName := ⟨RX12, "start", "(II)Z"⟩
abbrev cX12_run : ByteArray := prog_1_method_17_code
def yX12_run : MethodName := ⟨RX12, "run", "(I)I"⟩
abbrev cX12_look : ByteArray := prog_1_method_18_code
def yX12_look : MethodName := ⟨RX12, "look", "(I)I"⟩
abbrev cX12_out : ByteArray := prog_1_method_19_code
def yX12_out : MethodName := ⟨RX12, "out", "(I)I"⟩
abbrev cX12_type : ByteArray := prog_1_method_20_code
def yX12_type : MethodName := ⟨RX12, "type", "(II)I"⟩
def RJ9 : String := "java/lang/Math"
abbrev cJ9_min_7cf53 : ByteArray := prog_17_method_69_code
def yJ9_min_7cf53 : MethodName := ⟨RJ9, "min", "(II)I"⟩
theorem dX0_beginProgram_0 : decode cX0_beginProgram 0 = .ok (.aload_n 0, 1) := by decide +kernel
theorem dX0_beginProgram_1 : decode cX0_beginProgram 1 = .ok (.iconst (-1), 1) := by decide +kernel
theorem dX0_beginProgram_2 : decode cX0_beginProgram 2 = .ok (.putfield 65, 3) := by decide +kernel
theorem dX0_beginProgram_5 : decode cX0_beginProgram 5 = .ok (.return_, 1) := by decide +kernel
theorem dX0_closeProgram_0 : decode cX0_closeProgram 0 = .ok (.aload_n 0, 1) := by decide +kernel
theorem dX0_closeProgram_1 : decode cX0_closeProgram 1 = .ok (.getfield 65, 3) := by decide +kernel
theorem dX0_closeProgram_4 : decode cX0_closeProgram 4 = .ok (.iconst (-1), 1) := by decide +kernel
theorem dX0_closeProgram_5 : decode cX0_closeProgram 5 = .ok (.if_icmp .eq 16, 3) := by decide +kernel
theorem dX0_closeProgram_21 : decode cX0_closeProgram 21 = .ok (.return_, 1) := by decide +kernel
theorem dX2_forget_0 : decode cX2_forget 0 = .ok (.aload_n 0, 1) := by decide +kernel
theorem dX2_forget_1 : decode cX2_forget 1 = .ok (.iconst 0, 1) := by decide +kernel
theorem dX2_forget_2 : decode cX2_forget 2 = .ok (.putfield 78, 3) := by decide +kernel
theorem dX2_forget_5 : decode cX2_forget 5 = .ok (.aload_n 0, 1) := by decide +kernel
theorem dX2_forget_6 : decode cX2_forget 6 = .ok (.getfield 27, 3) := by decide +kernel
theorem dX2_forget_9 : decode cX2_forget 9 = .ok (.iconst 0, 1) := by decide +kernel
theorem dX2_forget_10 : decode cX2_forget 10 = .ok (.invokestatic 82, 3) := by decide +kernel
theorem dX2_forget_13 : decode cX2_forget 13 = .ok (.aload_n 0, 1) := by decide +kernel
theorem dX2_forget_14 : decode cX2_forget 14 = .ok (.getfield 39, 3) := by decide +kernel
theorem dX2_forget_17 : decode cX2_forget 17 = .ok (.iconst 0, 1) := by decide +kernel
theorem dX2_forget_18 : decode cX2_forget 18 = .ok (.invokestatic 82, 3) := by decide +kernel
theorem dX2_forget_21 : decode cX2_forget 21 = .ok (.aload_n 0, 1) := by decide +kernel
theorem dX2_forget_22 : decode cX2_forget 22 = .ok (.getfield 14, 3) := by decide +kernel
theorem dX2_forget_25 : decode cX2_forget 25 = .ok (.invokevirtual 88, 3) := by decide +kernel
theorem dX2_forget_28 : decode cX2_forget 28 = .ok (.return_, 1) := by decide +kernel
theorem dX2_addClass_0 : decode cX2_addClass 0 = .ok (.aload_n 0, 1) := by decide +kernel
theorem dX2_addClass_1 : decode cX2_addClass 1 = .ok (.getfield 78, 3) := by decide +kernel
theorem dX2_addClass_4 : decode cX2_addClass 4 = .ok (.aload_n 0, 1) := by decide +kernel
theorem dX2_addClass_5 : decode cX2_addClass 5 = .ok (.getfield 20, 3) := by decide +kernel
theorem dX2_addClass_8 : decode cX2_addClass 8 = .ok (.arraylength, 1) := by decide +kernel
theorem dX2_addClass_9 : decode cX2_addClass 9 = .ok (.if_icmp .ge 23, 3) := by decide +kernel
theorem dX2_addClass_12 : decode cX2_addClass 12 = .ok (.aload_n 0, 1) := by decide +kernel
theorem dX2_addClass_13 : decode cX2_addClass 13 = .ok (.getfield 20, 3) := by decide +kernel
theorem dX2_addClass_16 : decode cX2_addClass 16 = .ok (.aload_n 0, 1) := by decide +kernel
theorem dX2_addClass_17 : decode cX2_addClass 17 = .ok (.getfield 78, 3) := by decide +kernel
theorem dX2_addClass_20 : decode cX2_addClass 20 = .ok (.iload_n 1, 1) := by decide +kernel
theorem dX2_addClass_21 : decode cX2_addClass 21 = .ok (.iastore, 1) := by decide +kernel
theorem dX2_addClass_22 : decode cX2_addClass 22 = .ok (.aload_n 0, 1) := by decide +kernel
theorem dX2_addClass_23 : decode cX2_addClass 23 = .ok (.dup, 1) := by decide +kernel
theorem dX2_addClass_24 : decode cX2_addClass 24 = .ok (.getfield 78, 3) := by decide +kernel
theorem dX2_addClass_27 : decode cX2_addClass 27 = .ok (.iconst 1, 1) := by decide +kernel
theorem dX2_addClass_28 : decode cX2_addClass 28 = .ok (.iadd, 1) := by decide +kernel
theorem dX2_addClass_29 : decode cX2_addClass 29 = .ok (.putfield 78, 3) := by decide +kernel
theorem dX2_addClass_32 : decode cX2_addClass 32 = .ok (.return_, 1) := by decide +kernel
theorem dX2_readClasses_0 : decode cX2_readClasses 0 = .ok (.aload_n 0, 1) := by decide +kernel
theorem dX2_readClasses_1 : decode cX2_readClasses 1 = .ok (.getfield 74, 3) := by decide +kernel
theorem dX2_readClasses_4 : decode cX2_readClasses 4 = .ok (.getfield 91, 3) := by decide +kernel
theorem dX2_readClasses_7 : decode cX2_readClasses 7 = .ok (.ifCond .eq 4, 3) := by decide +kernel
theorem dX2_readClasses_10 : decode cX2_readClasses 10 = .ok (.return_, 1) := by decide +kernel
theorem dX2_readMembers_0 : decode cX2_readMembers 0 = .ok (.iconst 0, 1) := by decide +kernel
theorem dX2_readMembers_1 : decode cX2_readMembers 1 = .ok (.istore_n 1, 1) := by decide +kernel
theorem dX2_readMembers_2 : decode cX2_readMembers 2 = .ok (.iload_n 1, 1) := by decide +kernel
theorem dX2_readMembers_3 : decode cX2_readMembers 3 = .ok (.aload_n 0, 1) := by decide +kernel
theorem dX2_readMembers_4 : decode cX2_readMembers 4 = .ok (.getfield 78, 3) := by decide +kernel
theorem dX2_readMembers_7 : decode cX2_readMembers 7 = .ok (.if_icmp .ge 96, 3) := by decide +kernel
theorem dX2_readMembers_10 : decode cX2_readMembers 10 = .ok (.aload_n 0, 1) := by decide +kernel
theorem dX2_readMembers_11 : decode cX2_readMembers 11 = .ok (.getfield 74, 3) := by decide +kernel
theorem dX2_readMembers_14 : decode cX2_readMembers 14 = .ok (.getfield 91, 3) := by decide +kernel
theorem dX2_readMembers_17 : decode cX2_readMembers 17 = .ok (.ifCond .ne 86, 3) := by decide +kernel
theorem dX2_readMembers_103 : decode cX2_readMembers 103 = .ok (.return_, 1) := by decide +kernel
theorem dX2_checkOverrides_0 : decode cX2_checkOverrides 0 = .ok (.iconst 0, 1) := by decide +kernel
theorem dX2_checkOverrides_1 : decode cX2_checkOverrides 1 = .ok (.istore_n 1, 1) := by decide +kernel
theorem dX2_checkOverrides_2 : decode cX2_checkOverrides 2 = .ok (.iload_n 1, 1) := by decide +kernel
theorem dX2_checkOverrides_3 : decode cX2_checkOverrides 3 = .ok (.aload_n 0, 1) := by decide +kernel
theorem dX2_checkOverrides_4 : decode cX2_checkOverrides 4 = .ok (.getfield 42, 3) := by decide +kernel
theorem dX2_checkOverrides_7 : decode cX2_checkOverrides 7 = .ok (.arraylength, 1) := by decide +kernel
theorem dX2_checkOverrides_8 : decode cX2_checkOverrides 8 = .ok (.if_icmp .ge 32, 3) := by decide +kernel
theorem dX2_checkOverrides_11 : decode cX2_checkOverrides 11 = .ok (.aload_n 0, 1) := by decide +kernel
theorem dX2_checkOverrides_12 : decode cX2_checkOverrides 12 = .ok (.getfield 74, 3) := by decide +kernel
theorem dX2_checkOverrides_15 : decode cX2_checkOverrides 15 = .ok (.getfield 91, 3) := by decide +kernel
theorem dX2_checkOverrides_18 : decode cX2_checkOverrides 18 = .ok (.ifCond .ne 22, 3) := by decide +kernel
theorem dX2_checkOverrides_40 : decode cX2_checkOverrides 40 = .ok (.return_, 1) := by decide +kernel
theorem dX2_nameKinds_0 : decode cX2_nameKinds 0 = .ok (.iconst 0, 1) := by decide +kernel
theorem dX2_nameKinds_1 : decode cX2_nameKinds 1 = .ok (.istore_n 1, 1) := by decide +kernel
theorem dX2_nameKinds_2 : decode cX2_nameKinds 2 = .ok (.iload_n 1, 1) := by decide +kernel
theorem dX2_nameKinds_3 : decode cX2_nameKinds 3 = .ok (.bipush 8, 2) := by decide +kernel
theorem dX2_nameKinds_5 : decode cX2_nameKinds 5 = .ok (.aload_n 0, 1) := by decide +kernel
theorem dX2_nameKinds_6 : decode cX2_nameKinds 6 = .ok (.getfield 78, 3) := by decide +kernel
theorem dX2_nameKinds_9 : decode cX2_nameKinds 9 = .ok (.iadd, 1) := by decide +kernel
theorem dX2_nameKinds_10 : decode cX2_nameKinds 10 = .ok (.if_icmp .ge 73, 3) := by decide +kernel
theorem dX2_nameKinds_13 : decode cX2_nameKinds 13 = .ok (.iload_n 1, 1) := by decide +kernel
theorem dX2_nameKinds_14 : decode cX2_nameKinds 14 = .ok (.bipush 16, 2) := by decide +kernel
theorem dX2_nameKinds_16 : decode cX2_nameKinds 16 = .ok (.if_icmp .ge 67, 3) := by decide +kernel
theorem dX2_nameKinds_19 : decode cX2_nameKinds 19 = .ok (.aload_n 0, 1) := by decide +kernel
theorem dX2_nameKinds_20 : decode cX2_nameKinds 20 = .ok (.getfield 74, 3) := by decide +kernel
theorem dX2_nameKinds_23 : decode cX2_nameKinds 23 = .ok (.getfield 91, 3) := by decide +kernel
theorem dX2_nameKinds_26 : decode cX2_nameKinds 26 = .ok (.ifCond .ne 57, 3) := by decide +kernel
theorem dX2_nameKinds_83 : decode cX2_nameKinds 83 = .ok (.iconst 0, 1) := by decide +kernel
theorem dX2_nameKinds_84 : decode cX2_nameKinds 84 = .ok (.istore_n 1, 1) := by decide +kernel
theorem dX2_nameKinds_85 : decode cX2_nameKinds 85 = .ok (.iload_n 1, 1) := by decide +kernel
theorem dX2_nameKinds_86 : decode cX2_nameKinds 86 = .ok (.aload_n 0, 1) := by decide +kernel
theorem dX2_nameKinds_87 : decode cX2_nameKinds 87 = .ok (.getfield 30, 3) := by decide +kernel
theorem dX2_nameKinds_90 : decode cX2_nameKinds 90 = .ok (.arraylength, 1) := by decide +kernel
theorem dX2_nameKinds_91 : decode cX2_nameKinds 91 = .ok (.if_icmp .ge 51, 3) := by decide +kernel
theorem dX2_nameKinds_94 : decode cX2_nameKinds 94 = .ok (.aload_n 0, 1) := by decide +kernel
theorem dX2_nameKinds_95 : decode cX2_nameKinds 95 = .ok (.getfield 74, 3) := by decide +kernel
theorem dX2_nameKinds_98 : decode cX2_nameKinds 98 = .ok (.getfield 91, 3) := by decide +kernel
theorem dX2_nameKinds_101 : decode cX2_nameKinds 101 = .ok (.ifCond .ne 41, 3) := by decide +kernel
theorem dX2_nameKinds_142 : decode cX2_nameKinds 142 = .ok (.iconst 0, 1) := by decide +kernel
theorem dX2_nameKinds_143 : decode cX2_nameKinds 143 = .ok (.istore_n 1, 1) := by decide +kernel
theorem dX2_nameKinds_144 : decode cX2_nameKinds 144 = .ok (.iload_n 1, 1) := by decide +kernel
theorem dX2_nameKinds_145 : decode cX2_nameKinds 145 = .ok (.aload_n 0, 1) := by decide +kernel
theorem dX2_nameKinds_146 : decode cX2_nameKinds 146 = .ok (.getfield 42, 3) := by decide +kernel
theorem dX2_nameKinds_149 : decode cX2_nameKinds 149 = .ok (.arraylength, 1) := by decide +kernel
theorem dX2_nameKinds_150 : decode cX2_nameKinds 150 = .ok (.if_icmp .ge 38, 3) := by decide +kernel
theorem dX2_nameKinds_153 : decode cX2_nameKinds 153 = .ok (.aload_n 0, 1) := by decide +kernel
theorem dX2_nameKinds_154 : decode cX2_nameKinds 154 = .ok (.getfield 74, 3) := by decide +kernel
theorem dX2_nameKinds_157 : decode cX2_nameKinds 157 = .ok (.getfield 91, 3) := by decide +kernel
theorem dX2_nameKinds_160 : decode cX2_nameKinds 160 = .ok (.ifCond .ne 28, 3) := by decide +kernel
theorem dX2_nameKinds_188 : decode cX2_nameKinds 188 = .ok (.return_, 1) := by decide +kernel
theorem dX3_read_0 : decode cX3_read 0 = .ok (.aload_n 0, 1) := by decide +kernel
theorem dX3_read_1 : decode cX3_read 1 = .ok (.aload_n 1, 1) := by decide +kernel
theorem dX3_read_2 : decode cX3_read 2 = .ok (.putfield 9, 3) := by decide +kernel
theorem dX3_read_5 : decode cX3_read 5 = .ok (.aload_n 0, 1) := by decide +kernel
theorem dX3_read_6 : decode cX3_read 6 = .ok (.iload_n 2, 1) := by decide +kernel
theorem dX3_read_7 : decode cX3_read 7 = .ok (.aload_n 1, 1) := by decide +kernel
theorem dX3_read_8 : decode cX3_read 8 = .ok (.arraylength, 1) := by decide +kernel
theorem dX3_read_9 : decode cX3_read 9 = .ok (.invokestatic 33, 3) := by decide +kernel
theorem dX3_read_12 : decode cX3_read 12 = .ok (.putfield 39, 3) := by decide +kernel
theorem dX3_read_15 : decode cX3_read 15 = .ok (.aload_n 0, 1) := by decide +kernel
theorem dX3_read_16 : decode cX3_read 16 = .ok (.iconst 0, 1) := by decide +kernel
theorem dX3_read_17 : decode cX3_read 17 = .ok (.putfield 43, 3) := by decide +kernel
theorem dX3_read_20 : decode cX3_read 20 = .ok (.aload_n 0, 1) := by decide +kernel
theorem dX3_read_21 : decode cX3_read 21 = .ok (.iconst (-1), 1) := by decide +kernel
theorem dX3_read_22 : decode cX3_read 22 = .ok (.putfield 46, 3) := by decide +kernel
theorem dX3_read_25 : decode cX3_read 25 = .ok (.aload_n 0, 1) := by decide +kernel
theorem dX3_read_26 : decode cX3_read 26 = .ok (.iconst 0, 1) := by decide +kernel
theorem dX3_read_27 : decode cX3_read 27 = .ok (.putfield 49, 3) := by decide +kernel
theorem dX3_read_30 : decode cX3_read 30 = .ok (.aload_n 0, 1) := by decide +kernel
theorem dX3_read_31 : decode cX3_read 31 = .ok (.iconst 0, 1) := by decide +kernel
theorem dX3_read_32 : decode cX3_read 32 = .ok (.putfield 52, 3) := by decide +kernel
theorem dX3_read_35 : decode cX3_read 35 = .ok (.aload_n 0, 1) := by decide +kernel
theorem dX3_read_36 : decode cX3_read 36 = .ok (.invokevirtual 55, 3) := by decide +kernel
theorem dX3_read_39 : decode cX3_read 39 = .ok (.aload_n 0, 1) := by decide +kernel
theorem dX3_read_40 : decode cX3_read 40 = .ok (.aload_n 0, 1) := by decide +kernel
theorem dX3_read_41 : decode cX3_read 41 = .ok (.invokevirtual 58, 3) := by decide +kernel
theorem dX3_read_44 : decode cX3_read 44 = .ok (.putfield 62, 3) := by decide +kernel
theorem dX3_read_47 : decode cX3_read 47 = .ok (.aload_n 0, 1) := by decide +kernel
theorem dX3_read_48 : decode cX3_read 48 = .ok (.aload_n 0, 1) := by decide +kernel
theorem dX3_read_49 : decode cX3_read 49 = .ok (.invokevirtual 58, 3) := by decide +kernel
theorem dX3_read_52 : decode cX3_read 52 = .ok (.putfield 65, 3) := by decide +kernel
theorem dX3_read_55 : decode cX3_read 55 = .ok (.aload_n 0, 1) := by decide +kernel
theorem dX3_read_56 : decode cX3_read 56 = .ok (.invokevirtual 68, 3) := by decide +kernel
theorem dX3_read_59 : decode cX3_read 59 = .ok (.aload_n 0, 1) := by decide +kernel
theorem dX3_read_60 : decode cX3_read 60 = .ok (.iconst 0, 1) := by decide +kernel
theorem dX3_read_61 : decode cX3_read 61 = .ok (.bipush 12, 2) := by decide +kernel
theorem dX3_read_63 : decode cX3_read 63 = .ok (.invokevirtual 71, 3) := by decide +kernel
theorem dX3_read_66 : decode cX3_read 66 = .ok (.istore_n 3, 1) := by decide +kernel
theorem dX3_read_67 : decode cX3_read 67 = .ok (.iconst 0, 1) := by decide +kernel
theorem dX3_read_68 : decode cX3_read 68 = .ok (.istore 4, 2) := by decide +kernel
theorem dX3_read_70 : decode cX3_read 70 = .ok (.iload 4, 2) := by decide +kernel
theorem dX3_read_72 : decode cX3_read 72 = .ok (.iload_n 3, 1) := by decide +kernel
theorem dX3_read_73 : decode cX3_read 73 = .ok (.if_icmp .ge 36, 3) := by decide +kernel
theorem dX3_read_109 : decode cX3_read 109 = .ok (.aload_n 0, 1) := by decide +kernel
theorem dX3_read_110 : decode cX3_read 110 = .ok (.getfield 43, 3) := by decide +kernel
theorem dX3_read_113 : decode cX3_read 113 = .ok (.aload_n 0, 1) := by decide +kernel
theorem dX3_read_114 : decode cX3_read 114 = .ok (.getfield 39, 3) := by decide +kernel
theorem dX3_read_117 : decode cX3_read 117 = .ok (.if_icmp .ge 11, 3) := by decide +kernel
theorem dX3_read_128 : decode cX3_read 128 = .ok (.aload_n 0, 1) := by decide +kernel
theorem dX3_read_129 : decode cX3_read 129 = .ok (.getfield 46, 3) := by decide +kernel
theorem dX3_read_132 : decode cX3_read 132 = .ok (.ireturn, 1) := by decide +kernel
theorem dX3_bad_0 : decode cX3_bad 0 = .ok (.aload_n 0, 1) := by decide +kernel
theorem dX3_bad_1 : decode cX3_bad 1 = .ok (.getfield 46, 3) := by decide +kernel
theorem dX3_bad_4 : decode cX3_bad 4 = .ok (.iconst (-1), 1) := by decide +kernel
theorem dX3_bad_5 : decode cX3_bad 5 = .ok (.if_icmp .ne 8, 3) := by decide +kernel
theorem dX3_bad_13 : decode cX3_bad 13 = .ok (.return_, 1) := by decide +kernel
theorem dX3_next_0 : decode cX3_next 0 = .ok (.aload_n 0, 1) := by decide +kernel
theorem dX3_next_1 : decode cX3_next 1 = .ok (.getfield 43, 3) := by decide +kernel
theorem dX3_next_4 : decode cX3_next 4 = .ok (.aload_n 0, 1) := by decide +kernel
theorem dX3_next_5 : decode cX3_next 5 = .ok (.getfield 39, 3) := by decide +kernel
theorem dX3_next_8 : decode cX3_next 8 = .ok (.if_icmp .lt 28, 3) := by decide +kernel
theorem dX3_next_11 : decode cX3_next 11 = .ok (.aload_n 0, 1) := by decide +kernel
theorem dX3_next_12 : decode cX3_next 12 = .ok (.aload_n 0, 1) := by decide +kernel
theorem dX3_next_13 : decode cX3_next 13 = .ok (.getfield 46, 3) := by decide +kernel
theorem dX3_next_16 : decode cX3_next 16 = .ok (.iconst (-1), 1) := by decide +kernel
theorem dX3_next_17 : decode cX3_next 17 = .ok (.if_icmp .ne 10, 3) := by decide +kernel
theorem dX3_next_20 : decode cX3_next 20 = .ok (.aload_n 0, 1) := by decide +kernel
theorem dX3_next_21 : decode cX3_next 21 = .ok (.getfield 39, 3) := by decide +kernel
theorem dX3_next_24 : decode cX3_next 24 = .ok (.goto 7, 3) := by decide +kernel
theorem dX3_next_27 : decode cX3_next 27 = .ok (.aload_n 0, 1) := by decide +kernel
theorem dX3_next_28 : decode cX3_next 28 = .ok (.getfield 46, 3) := by decide +kernel
theorem dX3_next_31 : decode cX3_next 31 = .ok (.putfield 46, 3) := by decide +kernel
theorem dX3_next_34 : decode cX3_next 34 = .ok (.iconst 0, 1) := by decide +kernel
theorem dX3_next_35 : decode cX3_next 35 = .ok (.ireturn, 1) := by decide +kernel
theorem dX3_nextUpTo_0 : decode cX3_nextUpTo 0 = .ok (.aload_n 0, 1) := by decide +kernel
theorem dX3_nextUpTo_1 : decode cX3_nextUpTo 1 = .ok (.invokevirtual 87, 3) := by decide +kernel
theorem dX3_nextUpTo_4 : decode cX3_nextUpTo 4 = .ok (.istore_n 3, 1) := by decide +kernel
theorem dX3_nextUpTo_5 : decode cX3_nextUpTo 5 = .ok (.iload_n 3, 1) := by decide +kernel
theorem dX3_nextUpTo_6 : decode cX3_nextUpTo 6 = .ok (.iload_n 1, 1) := by decide +kernel
theorem dX3_nextUpTo_7 : decode cX3_nextUpTo 7 = .ok (.if_icmp .lt 8, 3) := by decide +kernel
theorem dX3_nextUpTo_10 : decode cX3_nextUpTo 10 = .ok (.iload_n 3, 1) := by decide +kernel
theorem dX3_nextUpTo_11 : decode cX3_nextUpTo 11 = .ok (.iload_n 2, 1) := by decide +kernel
theorem dX3_nextUpTo_12 : decode cX3_nextUpTo 12 = .ok (.if_icmp .le 13, 3) := by decide +kernel
theorem dX3_nextUpTo_15 : decode cX3_nextUpTo 15 = .ok (.aload_n 0, 1) := by decide +kernel
theorem dX3_nextUpTo_16 : decode cX3_nextUpTo 16 = .ok (.aload_n 0, 1) := by decide +kernel
theorem dX3_nextUpTo_17 : decode cX3_nextUpTo 17 = .ok (.getfield 43, 3) := by decide +kernel
theorem dX3_nextUpTo_20 : decode cX3_nextUpTo 20 = .ok (.iconst 1, 1) := by decide +kernel
theorem dX3_nextUpTo_21 : decode cX3_nextUpTo 21 = .ok (.isub, 1) := by decide +kernel
theorem dX3_nextUpTo_22 : decode cX3_nextUpTo 22 = .ok (.invokevirtual 78, 3) := by decide +kernel
theorem dX3_nextUpTo_25 : decode cX3_nextUpTo 25 = .ok (.iload_n 3, 1) := by decide +kernel
theorem dX3_nextUpTo_26 : decode cX3_nextUpTo 26 = .ok (.ireturn, 1) := by decide +kernel
theorem dX3_readConstants_0 : decode cX3_readConstants 0 = .ok (.aload_n 0, 1) := by decide +kernel
theorem dX3_readConstants_1 : decode cX3_readConstants 1 = .ok (.bipush 74, 2) := by decide +kernel
theorem dX3_readConstants_3 : decode cX3_readConstants 3 = .ok (.bipush 74, 2) := by decide +kernel
theorem dX3_readConstants_5 : decode cX3_readConstants 5 = .ok (.invokevirtual 71, 3) := by decide +kernel
theorem dX3_readConstants_8 : decode cX3_readConstants 8 = .ok (.pop, 1) := by decide +kernel
theorem dX3_readConstants_9 : decode cX3_readConstants 9 = .ok (.aload_n 0, 1) := by decide +kernel
theorem dX3_readConstants_10 : decode cX3_readConstants 10 = .ok (.bipush 77, 2) := by decide +kernel
theorem dX3_readConstants_12 : decode cX3_readConstants 12 = .ok (.bipush 77, 2) := by decide +kernel
theorem dX3_readConstants_14 : decode cX3_readConstants 14 = .ok (.invokevirtual 71, 3) := by decide +kernel
theorem dX3_readConstants_17 : decode cX3_readConstants 17 = .ok (.pop, 1) := by decide +kernel
theorem dX3_readConstants_18 : decode cX3_readConstants 18 = .ok (.aload_n 0, 1) := by decide +kernel
theorem dX3_readConstants_19 : decode cX3_readConstants 19 = .ok (.aload_n 0, 1) := by decide +kernel
theorem dX3_readConstants_20 : decode cX3_readConstants 20 = .ok (.invokevirtual 87, 3) := by decide +kernel
theorem dX3_readConstants_23 : decode cX3_readConstants 23 = .ok (.putfield 90, 3) := by decide +kernel
theorem dX3_readConstants_26 : decode cX3_readConstants 26 = .ok (.iconst 1, 1) := by decide +kernel
theorem dX3_readConstants_27 : decode cX3_readConstants 27 = .ok (.istore_n 1, 1) := by decide +kernel
theorem dX3_readConstants_28 : decode cX3_readConstants 28 = .ok (.iload_n 1, 1) := by decide +kernel
theorem dX3_readConstants_29 : decode cX3_readConstants 29 = .ok (.aload_n 0, 1) := by decide +kernel
theorem dX3_readConstants_30 : decode cX3_readConstants 30 = .ok (.getfield 90, 3) := by decide +kernel
theorem dX3_readConstants_33 : decode cX3_readConstants 33 = .ok (.if_icmp .gt 22, 3) := by decide +kernel
theorem dX3_readConstants_55 : decode cX3_readConstants 55 = .ok (.iconst 1, 1) := by decide +kernel
theorem dX3_readConstants_56 : decode cX3_readConstants 56 = .ok (.istore_n 1, 1) := by decide +kernel
theorem dX3_readConstants_57 : decode cX3_readConstants 57 = .ok (.iload_n 1, 1) := by decide +kernel
theorem dX3_readConstants_58 : decode cX3_readConstants 58 = .ok (.aload_n 0, 1) := by decide +kernel
theorem dX3_readConstants_59 : decode cX3_readConstants 59 = .ok (.getfield 90, 3) := by decide +kernel
theorem dX3_readConstants_62 : decode cX3_readConstants 62 = .ok (.if_icmp .gt 22, 3) := by decide +kernel
theorem dX3_readConstants_84 : decode cX3_readConstants 84 = .ok (.return_, 1) := by decide +kernel
theorem dX3_tagOf_0 : decode cX3_tagOf 0 = .ok (.iload_n 1, 1) := by decide +kernel
theorem dX3_tagOf_1 : decode cX3_tagOf 1 = .ok (.iconst 1, 1) := by decide +kernel
theorem dX3_tagOf_2 : decode cX3_tagOf 2 = .ok (.if_icmp .lt 29, 3) := by decide +kernel
theorem dX3_tagOf_31 : decode cX3_tagOf 31 = .ok (.iconst 0, 1) := by decide +kernel
theorem dX3_tagOf_32 : decode cX3_tagOf 32 = .ok (.ireturn, 1) := by decide +kernel
theorem dX3_partOf_0 : decode cX3_partOf 0 = .ok (.iload_n 1, 1) := by decide +kernel
theorem dX3_partOf_1 : decode cX3_partOf 1 = .ok (.iconst 1, 1) := by decide +kernel
theorem dX3_partOf_2 : decode cX3_partOf 2 = .ok (.if_icmp .lt 35, 3) := by decide +kernel
theorem dX3_partOf_37 : decode cX3_partOf 37 = .ok (.iconst 0, 1) := by decide +kernel
theorem dX3_partOf_38 : decode cX3_partOf 38 = .ok (.ireturn, 1) := by decide +kernel
theorem dX3_nextPlainClass_0 : decode cX3_nextPlainClass 0 = .ok (.aload_n 0, 1) := by decide +kernel
theorem dX3_nextPlainClass_1 : decode cX3_nextPlainClass 1 = .ok (.invokevirtual 87, 3) := by decide +kernel
theorem dX3_nextPlainClass_4 : decode cX3_nextPlainClass 4 = .ok (.istore_n 1, 1) := by decide +kernel
theorem dX3_nextPlainClass_5 : decode cX3_nextPlainClass 5 = .ok (.aload_n 0, 1) := by decide +kernel
theorem dX3_nextPlainClass_6 : decode cX3_nextPlainClass 6 = .ok (.iload_n 1, 1) := by decide +kernel
theorem dX3_nextPlainClass_7 : decode cX3_nextPlainClass 7 = .ok (.iconst 0, 1) := by decide +kernel
theorem dX3_nextPlainClass_8 : decode cX3_nextPlainClass 8 = .ok (.invokevirtual 99, 3) := by decide +kernel
theorem dX3_nextPlainClass_11 : decode cX3_nextPlainClass 11 = .ok (.istore_n 2, 1) := by decide +kernel
theorem dX3_nextPlainClass_12 : decode cX3_nextPlainClass 12 = .ok (.aload_n 0, 1) := by decide +kernel
theorem dX3_nextPlainClass_13 : decode cX3_nextPlainClass 13 = .ok (.iload_n 1, 1) := by decide +kernel
theorem dX3_nextPlainClass_14 : decode cX3_nextPlainClass 14 = .ok (.invokevirtual 112, 3) := by decide +kernel
theorem dX3_nextPlainClass_17 : decode cX3_nextPlainClass 17 = .ok (.iconst 3, 1) := by decide +kernel
theorem dX3_nextPlainClass_18 : decode cX3_nextPlainClass 18 = .ok (.if_icmp .ne 11, 3) := by decide +kernel
theorem dX3_nextPlainClass_29 : decode cX3_nextPlainClass 29 = .ok (.aload_n 0, 1) := by decide +kernel
theorem dX3_nextPlainClass_30 : decode cX3_nextPlainClass 30 = .ok (.aload_n 0, 1) := by decide +kernel
theorem dX3_nextPlainClass_31 : decode cX3_nextPlainClass 31 = .ok (.getfield 43, 3) := by decide +kernel
theorem dX3_nextPlainClass_34 : decode cX3_nextPlainClass 34 = .ok (.iconst 1, 1) := by decide +kernel
theorem dX3_nextPlainClass_35 : decode cX3_nextPlainClass 35 = .ok (.isub, 1) := by decide +kernel
theorem dX3_nextPlainClass_36 : decode cX3_nextPlainClass 36 = .ok (.invokevirtual 78, 3) := by decide +kernel
theorem dX3_nextPlainClass_39 : decode cX3_nextPlainClass 39 = .ok (.iload_n 2, 1) := by decide +kernel
theorem dX3_nextPlainClass_40 : decode cX3_nextPlainClass 40 = .ok (.ireturn, 1) := by decide +kernel
theorem dX3_readFields_0 : decode cX3_readFields 0 = .ok (.aload_n 0, 1) := by decide +kernel
theorem dX3_readFields_1 : decode cX3_readFields 1 = .ok (.iconst 0, 1) := by decide +kernel
theorem dX3_readFields_2 : decode cX3_readFields 2 = .ok (.bipush 12, 2) := by decide +kernel
theorem dX3_readFields_4 : decode cX3_readFields 4 = .ok (.invokevirtual 71, 3) := by decide +kernel
theorem dX3_readFields_7 : decode cX3_readFields 7 = .ok (.istore_n 1, 1) := by decide +kernel
theorem dX3_readFields_8 : decode cX3_readFields 8 = .ok (.iconst 0, 1) := by decide +kernel
theorem dX3_readFields_9 : decode cX3_readFields 9 = .ok (.istore_n 2, 1) := by decide +kernel
theorem dX3_readFields_10 : decode cX3_readFields 10 = .ok (.iload_n 2, 1) := by decide +kernel
theorem dX3_readFields_11 : decode cX3_readFields 11 = .ok (.iload_n 1, 1) := by decide +kernel
theorem dX3_readFields_12 : decode cX3_readFields 12 = .ok (.if_icmp .ge 73, 3) := by decide +kernel
theorem dX3_readFields_85 : decode cX3_readFields 85 = .ok (.return_, 1) := by decide +kernel
theorem dX4_above_0 : decode cX4_above 0 = .ok (.iload_n 1, 1) := by decide +kernel
theorem dX4_above_1 : decode cX4_above 1 = .ok (.invokestatic 31, 3) := by decide +kernel
theorem dX4_above_4 : decode cX4_above 4 = .ok (.ifCond .eq 12, 3) := by decide +kernel
theorem dX4_above_7 : decode cX4_above 7 = .ok (.aload_n 0, 1) := by decide +kernel
theorem dX4_above_8 : decode cX4_above 8 = .ok (.getfield 11, 3) := by decide +kernel
theorem dX4_above_11 : decode cX4_above 11 = .ok (.iload_n 1, 1) := by decide +kernel
theorem dX4_above_12 : decode cX4_above 12 = .ok (.iaload, 1) := by decide +kernel
theorem dX4_above_13 : decode cX4_above 13 = .ok (.goto 4, 3) := by decide +kernel
theorem dX4_above_17 : decode cX4_above 17 = .ok (.ireturn, 1) := by decide +kernel
theorem dX4_isClass_0 : decode cX4_isClass 0 = .ok (.iload_n 0, 1) := by decide +kernel
theorem dX4_isClass_1 : decode cX4_isClass 1 = .ok (.ifCond .lt 13, 3) := by decide +kernel
theorem dX4_isClass_4 : decode cX4_isClass 4 = .ok (.iload_n 0, 1) := by decide +kernel
theorem dX4_isClass_5 : decode cX4_isClass 5 = .ok (.bipush 16, 2) := by decide +kernel
theorem dX4_isClass_7 : decode cX4_isClass 7 = .ok (.if_icmp .ge 7, 3) := by decide +kernel
theorem dX4_isClass_10 : decode cX4_isClass 10 = .ok (.iconst 1, 1) := by decide +kernel
theorem dX4_isClass_11 : decode cX4_isClass 11 = .ok (.goto 4, 3) := by decide +kernel
theorem dX4_isClass_15 : decode cX4_isClass 15 = .ok (.ireturn, 1) := by decide +kernel
theorem dX5_forget_0 : decode cX5_forget 0 = .ok (.aload_n 0, 1) := by decide +kernel
theorem dX5_forget_1 : decode cX5_forget 1 = .ok (.iconst 0, 1) := by decide +kernel
theorem dX5_forget_2 : decode cX5_forget 2 = .ok (.putfield 54, 3) := by decide +kernel
theorem dX5_forget_5 : decode cX5_forget 5 = .ok (.aload_n 0, 1) := by decide +kernel
theorem dX5_forget_6 : decode cX5_forget 6 = .ok (.iconst (-1), 1) := by decide +kernel
theorem dX5_forget_7 : decode cX5_forget 7 = .ok (.putfield 50, 3) := by decide +kernel
theorem dX5_forget_10 : decode cX5_forget 10 = .ok (.aload_n 0, 1) := by decide +kernel
theorem dX5_forget_11 : decode cX5_forget 11 = .ok (.iconst 0, 1) := by decide +kernel
theorem dX5_forget_12 : decode cX5_forget 12 = .ok (.putfield 57, 3) := by decide +kernel
theorem dX5_forget_15 : decode cX5_forget 15 = .ok (.aload_n 0, 1) := by decide +kernel
theorem dX5_forget_16 : decode cX5_forget 16 = .ok (.iconst 0, 1) := by decide +kernel
theorem dX5_forget_17 : decode cX5_forget 17 = .ok (.putfield 60, 3) := by decide +kernel
theorem dX5_forget_20 : decode cX5_forget 20 = .ok (.aload_n 0, 1) := by decide +kernel
theorem dX5_forget_21 : decode cX5_forget 21 = .ok (.iconst 0, 1) := by decide +kernel
theorem dX5_forget_22 : decode cX5_forget 22 = .ok (.putfield 63, 3) := by decide +kernel
theorem dX5_forget_25 : decode cX5_forget 25 = .ok (.aload_n 0, 1) := by decide +kernel
theorem dX5_forget_26 : decode cX5_forget 26 = .ok (.iconst 0, 1) := by decide +kernel
theorem dX5_forget_27 : decode cX5_forget 27 = .ok (.putfield 66, 3) := by decide +kernel
theorem dX5_forget_30 : decode cX5_forget 30 = .ok (.aload_n 0, 1) := by decide +kernel
theorem dX5_forget_31 : decode cX5_forget 31 = .ok (.iconst 0, 1) := by decide +kernel
theorem dX5_forget_32 : decode cX5_forget 32 = .ok (.putfield 69, 3) := by decide +kernel
theorem dX5_forget_35 : decode cX5_forget 35 = .ok (.return_, 1) := by decide +kernel
theorem dX5_go_0 : decode cX5_go 0 = .ok (.iconst 0, 1) := by decide +kernel
theorem dX5_go_1 : decode cX5_go 1 = .ok (.istore_n 2, 1) := by decide +kernel
theorem dX5_go_2 : decode cX5_go 2 = .ok (.iload_n 2, 1) := by decide +kernel
theorem dX5_go_3 : decode cX5_go 3 = .ok (.iload_n 1, 1) := by decide +kernel
theorem dX5_go_4 : decode cX5_go 4 = .ok (.if_icmp .ge 62, 3) := by decide +kernel
theorem dX5_go_7 : decode cX5_go 7 = .ok (.aload_n 0, 1) := by decide +kernel
theorem dX5_go_8 : decode cX5_go 8 = .ok (.getfield 54, 3) := by decide +kernel
theorem dX5_go_11 : decode cX5_go 11 = .ok (.iconst 1, 1) := by decide +kernel
theorem dX5_go_12 : decode cX5_go 12 = .ok (.if_icmp .ne 54, 3) := by decide +kernel
theorem dX5_go_66 : decode cX5_go 66 = .ok (.aload_n 0, 1) := by decide +kernel
theorem dX5_go_67 : decode cX5_go 67 = .ok (.dup, 1) := by decide +kernel
theorem dX5_go_68 : decode cX5_go 68 = .ok (.getfield 57, 3) := by decide +kernel
theorem dX5_go_71 : decode cX5_go 71 = .ok (.iload_n 2, 1) := by decide +kernel
theorem dX5_go_72 : decode cX5_go 72 = .ok (.iadd, 1) := by decide +kernel
theorem dX5_go_73 : decode cX5_go 73 = .ok (.putfield 57, 3) := by decide +kernel
theorem dX5_go_76 : decode cX5_go 76 = .ok (.iload_n 2, 1) := by decide +kernel
theorem dX5_go_77 : decode cX5_go 77 = .ok (.ireturn, 1) := by decide +kernel
theorem dX5_tell_0 : decode cX5_tell 0 = .ok (.iload_n 1, 1) := by decide +kernel
theorem dX5_tell_1 : decode cX5_tell 1 = .ok (.tableswitch 78 0 6 #[43, 48, 53, 58, 63, 68, 73], 43) := by decide +kernel
theorem dX5_tell_44 : decode cX5_tell 44 = .ok (.aload_n 0, 1) := by decide +kernel
theorem dX5_tell_45 : decode cX5_tell 45 = .ok (.getfield 54, 3) := by decide +kernel
theorem dX5_tell_48 : decode cX5_tell 48 = .ok (.ireturn, 1) := by decide +kernel
theorem dX5_tell_49 : decode cX5_tell 49 = .ok (.aload_n 0, 1) := by decide +kernel
theorem dX5_tell_50 : decode cX5_tell 50 = .ok (.getfield 50, 3) := by decide +kernel
theorem dX5_tell_53 : decode cX5_tell 53 = .ok (.ireturn, 1) := by decide +kernel
theorem dX5_tell_54 : decode cX5_tell 54 = .ok (.aload_n 0, 1) := by decide +kernel
theorem dX5_tell_55 : decode cX5_tell 55 = .ok (.getfield 57, 3) := by decide +kernel
theorem dX5_tell_58 : decode cX5_tell 58 = .ok (.ireturn, 1) := by decide +kernel
theorem dX5_tell_59 : decode cX5_tell 59 = .ok (.aload_n 0, 1) := by decide +kernel
theorem dX5_tell_60 : decode cX5_tell 60 = .ok (.getfield 60, 3) := by decide +kernel
theorem dX5_tell_63 : decode cX5_tell 63 = .ok (.ireturn, 1) := by decide +kernel
theorem dX5_tell_64 : decode cX5_tell 64 = .ok (.aload_n 0, 1) := by decide +kernel
theorem dX5_tell_65 : decode cX5_tell 65 = .ok (.getfield 63, 3) := by decide +kernel
theorem dX5_tell_68 : decode cX5_tell 68 = .ok (.ireturn, 1) := by decide +kernel
theorem dX5_tell_69 : decode cX5_tell 69 = .ok (.aload_n 0, 1) := by decide +kernel
theorem dX5_tell_70 : decode cX5_tell 70 = .ok (.getfield 66, 3) := by decide +kernel
theorem dX5_tell_73 : decode cX5_tell 73 = .ok (.ireturn, 1) := by decide +kernel
theorem dX5_tell_74 : decode cX5_tell 74 = .ok (.aload_n 0, 1) := by decide +kernel
theorem dX5_tell_75 : decode cX5_tell 75 = .ok (.getfield 69, 3) := by decide +kernel
theorem dX5_tell_78 : decode cX5_tell 78 = .ok (.ireturn, 1) := by decide +kernel
theorem dX5_tell_79 : decode cX5_tell 79 = .ok (.iconst (-1), 1) := by decide +kernel
theorem dX5_tell_80 : decode cX5_tell 80 = .ok (.ireturn, 1) := by decide +kernel
theorem dX5_tellTop_0 : decode cX5_tellTop 0 = .ok (.aload_n 0, 1) := by decide +kernel
theorem dX5_tellTop_1 : decode cX5_tellTop 1 = .ok (.getfield 54, 3) := by decide +kernel
theorem dX5_tellTop_4 : decode cX5_tellTop 4 = .ok (.iconst 1, 1) := by decide +kernel
theorem dX5_tellTop_5 : decode cX5_tellTop 5 = .ok (.if_icmp .eq 5, 3) := by decide +kernel
theorem dX5_tellTop_8 : decode cX5_tellTop 8 = .ok (.iconst (-1), 1) := by decide +kernel
theorem dX5_tellTop_9 : decode cX5_tellTop 9 = .ok (.ireturn, 1) := by decide +kernel
theorem dX5_printedAt_0 : decode cX5_printedAt 0 = .ok (.iload_n 1, 1) := by decide +kernel
theorem dX5_printedAt_1 : decode cX5_printedAt 1 = .ok (.ifCond .lt 27, 3) := by decide +kernel
theorem dX5_printedAt_4 : decode cX5_printedAt 4 = .ok (.iload_n 1, 1) := by decide +kernel
theorem dX5_printedAt_5 : decode cX5_printedAt 5 = .ok (.aload_n 0, 1) := by decide +kernel
theorem dX5_printedAt_6 : decode cX5_printedAt 6 = .ok (.getfield 69, 3) := by decide +kernel
theorem dX5_printedAt_9 : decode cX5_printedAt 9 = .ok (.if_icmp .ge 19, 3) := by decide +kernel
theorem dX5_printedAt_28 : decode cX5_printedAt 28 = .ok (.iconst 0, 1) := by decide +kernel
theorem dX5_printedAt_29 : decode cX5_printedAt 29 = .ok (.ireturn, 1) := by decide +kernel
theorem dX7_forget_0 : decode cX7_forget 0 = .ok (.aload_n 0, 1) := by decide +kernel
theorem dX7_forget_1 : decode cX7_forget 1 = .ok (.iconst 0, 1) := by decide +kernel
theorem dX7_forget_2 : decode cX7_forget 2 = .ok (.putfield 41, 3) := by decide +kernel
theorem dX7_forget_5 : decode cX7_forget 5 = .ok (.aload_n 0, 1) := by decide +kernel
theorem dX7_forget_6 : decode cX7_forget 6 = .ok (.iconst 0, 1) := by decide +kernel
theorem dX7_forget_7 : decode cX7_forget 7 = .ok (.putfield 45, 3) := by decide +kernel
theorem dX7_forget_10 : decode cX7_forget 10 = .ok (.aload_n 0, 1) := by decide +kernel
theorem dX7_forget_11 : decode cX7_forget 11 = .ok (.getfield 16, 3) := by decide +kernel
theorem dX7_forget_14 : decode cX7_forget 14 = .ok (.invokevirtual 49, 3) := by decide +kernel
theorem dX7_forget_17 : decode cX7_forget 17 = .ok (.return_, 1) := by decide +kernel
theorem dX7_imageOf_0 : decode cX7_imageOf 0 = .ok (.iload_n 1, 1) := by decide +kernel
theorem dX7_imageOf_1 : decode cX7_imageOf 1 = .ok (.bipush 8, 2) := by decide +kernel
theorem dX7_imageOf_3 : decode cX7_imageOf 3 = .ok (.if_icmp .lt 26, 3) := by decide +kernel
theorem dX7_imageOf_6 : decode cX7_imageOf 6 = .ok (.iload_n 1, 1) := by decide +kernel
theorem dX7_imageOf_7 : decode cX7_imageOf 7 = .ok (.bipush 8, 2) := by decide +kernel
theorem dX7_imageOf_9 : decode cX7_imageOf 9 = .ok (.aload_n 0, 1) := by decide +kernel
theorem dX7_imageOf_10 : decode cX7_imageOf 10 = .ok (.getfield 41, 3) := by decide +kernel
theorem dX7_imageOf_13 : decode cX7_imageOf 13 = .ok (.iadd, 1) := by decide +kernel
theorem dX7_imageOf_14 : decode cX7_imageOf 14 = .ok (.if_icmp .ge 15, 3) := by decide +kernel
theorem dX7_imageOf_17 : decode cX7_imageOf 17 = .ok (.aload_n 0, 1) := by decide +kernel
theorem dX7_imageOf_29 : decode cX7_imageOf 29 = .ok (.aconst_null, 1) := by decide +kernel
theorem dX7_imageOf_30 : decode cX7_imageOf 30 = .ok (.areturn, 1) := by decide +kernel
theorem dX7_bring_0 : decode cX7_bring 0 = .ok (.aload_n 0, 1) := by decide +kernel
theorem dX7_bring_1 : decode cX7_bring 1 = .ok (.getfield 27, 3) := by decide +kernel
theorem dX7_bring_4 : decode cX7_bring 4 = .ok (.aload_n 1, 1) := by decide +kernel
theorem dX7_bring_5 : decode cX7_bring 5 = .ok (.iload_n 2, 1) := by decide +kernel
theorem dX7_bring_6 : decode cX7_bring 6 = .ok (.invokevirtual 52, 3) := by decide +kernel
theorem dX7_bring_9 : decode cX7_bring 9 = .ok (.istore_n 3, 1) := by decide +kernel
theorem dX7_bring_10 : decode cX7_bring 10 = .ok (.iload_n 3, 1) := by decide +kernel
theorem dX7_bring_11 : decode cX7_bring 11 = .ok (.iconst (-1), 1) := by decide +kernel
theorem dX7_bring_12 : decode cX7_bring 12 = .ok (.if_icmp .eq 8, 3) := by decide +kernel
theorem dX7_bring_15 : decode cX7_bring 15 = .ok (.bipush (-2), 2) := by decide +kernel
theorem dX7_bring_17 : decode cX7_bring 17 = .ok (.iload_n 3, 1) := by decide +kernel
theorem dX7_bring_18 : decode cX7_bring 18 = .ok (.isub, 1) := by decide +kernel
theorem dX7_bring_19 : decode cX7_bring 19 = .ok (.ireturn, 1) := by decide +kernel
theorem dX7_change_0 : decode cX7_change 0 = .ok (.aload_n 0, 1) := by decide +kernel
theorem dX7_change_1 : decode cX7_change 1 = .ok (.iload_n 1, 1) := by decide +kernel
theorem dX7_change_2 : decode cX7_change 2 = .ok (.invokevirtual 90, 3) := by decide +kernel
theorem dX7_change_5 : decode cX7_change 5 = .ok (.astore 4, 2) := by decide +kernel
theorem dX7_change_7 : decode cX7_change 7 = .ok (.aload 4, 2) := by decide +kernel
theorem dX7_change_9 : decode cX7_change 9 = .ok (.ifnull 16, 3) := by decide +kernel
theorem dX7_change_25 : decode cX7_change 25 = .ok (.iconst 0, 1) := by decide +kernel
theorem dX7_change_26 : decode cX7_change 26 = .ok (.ireturn, 1) := by decide +kernel
theorem dX7_linkAll_0 : decode cX7_linkAll 0 = .ok (.iconst 0, 1) := by decide +kernel
theorem dX7_linkAll_1 : decode cX7_linkAll 1 = .ok (.istore_n 1, 1) := by decide +kernel
theorem dX7_linkAll_2 : decode cX7_linkAll 2 = .ok (.iload_n 1, 1) := by decide +kernel
theorem dX7_linkAll_3 : decode cX7_linkAll 3 = .ok (.bipush 8, 2) := by decide +kernel
theorem dX7_linkAll_5 : decode cX7_linkAll 5 = .ok (.aload_n 0, 1) := by decide +kernel
theorem dX7_linkAll_6 : decode cX7_linkAll 6 = .ok (.getfield 41, 3) := by decide +kernel
theorem dX7_linkAll_9 : decode cX7_linkAll 9 = .ok (.iadd, 1) := by decide +kernel
theorem dX7_linkAll_10 : decode cX7_linkAll 10 = .ok (.if_icmp .ge 20, 3) := by decide +kernel
theorem dX7_linkAll_13 : decode cX7_linkAll 13 = .ok (.aload_n 0, 1) := by decide +kernel
theorem dX7_linkAll_14 : decode cX7_linkAll 14 = .ok (.getfield 35, 3) := by decide +kernel
theorem dX7_linkAll_17 : decode cX7_linkAll 17 = .ok (.iload_n 1, 1) := by decide +kernel
theorem dX7_linkAll_18 : decode cX7_linkAll 18 = .ok (.aload_n 0, 1) := by decide +kernel
theorem dX7_linkAll_19 : decode cX7_linkAll 19 = .ok (.iload_n 1, 1) := by decide +kernel
theorem dX7_linkAll_20 : decode cX7_linkAll 20 = .ok (.invokevirtual 147, 3) := by decide +kernel
theorem dX7_linkAll_23 : decode cX7_linkAll 23 = .ok (.iastore, 1) := by decide +kernel
theorem dX7_linkAll_24 : decode cX7_linkAll 24 = .ok (.iinc 1 1, 3) := by decide +kernel
theorem dX7_linkAll_27 : decode cX7_linkAll 27 = .ok (.goto (-25), 3) := by decide +kernel
theorem dX7_linkAll_30 : decode cX7_linkAll 30 = .ok (.iconst 0, 1) := by decide +kernel
theorem dX7_linkAll_31 : decode cX7_linkAll 31 = .ok (.istore_n 1, 1) := by decide +kernel
theorem dX7_linkAll_32 : decode cX7_linkAll 32 = .ok (.iload_n 1, 1) := by decide +kernel
theorem dX7_linkAll_33 : decode cX7_linkAll 33 = .ok (.aload_n 0, 1) := by decide +kernel
theorem dX7_linkAll_34 : decode cX7_linkAll 34 = .ok (.getfield 41, 3) := by decide +kernel
theorem dX7_linkAll_37 : decode cX7_linkAll 37 = .ok (.if_icmp .ge 58, 3) := by decide +kernel
theorem dX7_linkAll_95 : decode cX7_linkAll 95 = .ok (.return_, 1) := by decide +kernel
theorem dX7_cellsAbove_0 : decode cX7_cellsAbove 0 = .ok (.iconst 0, 1) := by decide +kernel
theorem dX7_cellsAbove_1 : decode cX7_cellsAbove 1 = .ok (.istore_n 2, 1) := by decide +kernel
theorem dX7_cellsAbove_2 : decode cX7_cellsAbove 2 = .ok (.iload_n 1, 1) := by decide +kernel
theorem dX7_cellsAbove_3 : decode cX7_cellsAbove 3 = .ok (.istore_n 3, 1) := by decide +kernel
theorem dX7_cellsAbove_4 : decode cX7_cellsAbove 4 = .ok (.iconst 0, 1) := by decide +kernel
theorem dX7_cellsAbove_5 : decode cX7_cellsAbove 5 = .ok (.istore 4, 2) := by decide +kernel
theorem dX7_cellsAbove_7 : decode cX7_cellsAbove 7 = .ok (.iload 4, 2) := by decide +kernel
theorem dX7_cellsAbove_9 : decode cX7_cellsAbove 9 = .ok (.bipush 16, 2) := by decide +kernel
theorem dX7_cellsAbove_11 : decode cX7_cellsAbove 11 = .ok (.if_icmp .ge 40, 3) := by decide +kernel
theorem dX7_cellsAbove_14 : decode cX7_cellsAbove 14 = .ok (.aload_n 0, 1) := by decide +kernel
theorem dX7_cellsAbove_15 : decode cX7_cellsAbove 15 = .ok (.iload_n 3, 1) := by decide +kernel
theorem dX7_cellsAbove_16 : decode cX7_cellsAbove 16 = .ok (.invokevirtual 90, 3) := by decide +kernel
theorem dX7_cellsAbove_19 : decode cX7_cellsAbove 19 = .ok (.astore 5, 2) := by decide +kernel
theorem dX7_cellsAbove_21 : decode cX7_cellsAbove 21 = .ok (.aload 5, 2) := by decide +kernel
theorem dX7_cellsAbove_23 : decode cX7_cellsAbove 23 = .ok (.ifnonnull 5, 3) := by decide +kernel
theorem dX7_cellsAbove_26 : decode cX7_cellsAbove 26 = .ok (.iload_n 2, 1) := by decide +kernel
theorem dX7_cellsAbove_27 : decode cX7_cellsAbove 27 = .ok (.ireturn, 1) := by decide +kernel
theorem dX8_readProgram_0 : decode cX8_readProgram 0 = .ok (.iconst 0, 1) := by decide +kernel
theorem dX8_readProgram_1 : decode cX8_readProgram 1 = .ok (.istore_n 1, 1) := by decide +kernel
theorem dX8_readProgram_2 : decode cX8_readProgram 2 = .ok (.iload_n 1, 1) := by decide +kernel
theorem dX8_readProgram_3 : decode cX8_readProgram 3 = .ok (.sipush 3000, 3) := by decide +kernel
theorem dX8_readProgram_6 : decode cX8_readProgram 6 = .ok (.if_icmp .ge 37, 3) := by decide +kernel
theorem dX8_readProgram_9 : decode cX8_readProgram 9 = .ok (.aload_n 0, 1) := by decide +kernel
theorem dX8_readProgram_10 : decode cX8_readProgram 10 = .ok (.getfield 7, 3) := by decide +kernel
theorem dX8_readProgram_13 : decode cX8_readProgram 13 = .ok (.getfield 19, 3) := by decide +kernel
theorem dX8_readProgram_16 : decode cX8_readProgram 16 = .ok (.ifCond .ne 27, 3) := by decide +kernel
theorem dX8_readProgram_19 : decode cX8_readProgram 19 = .ok (.iload_n 1, 1) := by decide +kernel
theorem dX8_readProgram_20 : decode cX8_readProgram 20 = .ok (.ifCond .eq 13, 3) := by decide +kernel
theorem dX8_readProgram_33 : decode cX8_readProgram 33 = .ok (.aload_n 0, 1) := by decide +kernel
theorem dX8_readProgram_34 : decode cX8_readProgram 34 = .ok (.invokevirtual 27, 3) := by decide +kernel
theorem dX8_readProgram_37 : decode cX8_readProgram 37 = .ok (.iinc 1 1, 3) := by decide +kernel
theorem dX8_readProgram_40 : decode cX8_readProgram 40 = .ok (.goto (-38), 3) := by decide +kernel
theorem dX8_readProgram_43 : decode cX8_readProgram 43 = .ok (.return_, 1) := by decide +kernel
theorem dX8_need_0 : decode cX8_need 0 = .ok (.aload_n 0, 1) := by decide +kernel
theorem dX8_need_1 : decode cX8_need 1 = .ok (.getfield 7, 3) := by decide +kernel
theorem dX8_need_4 : decode cX8_need 4 = .ok (.invokevirtual 23, 3) := by decide +kernel
theorem dX8_need_7 : decode cX8_need 7 = .ok (.iload_n 1, 1) := by decide +kernel
theorem dX8_need_8 : decode cX8_need 8 = .ok (.if_icmp .ne 19, 3) := by decide +kernel
theorem dX8_need_27 : decode cX8_need 27 = .ok (.aload_n 0, 1) := by decide +kernel
theorem dX8_need_28 : decode cX8_need 28 = .ok (.getfield 7, 3) := by decide +kernel
theorem dX8_need_31 : decode cX8_need 31 = .ok (.iconst 2, 1) := by decide +kernel
theorem dX8_need_32 : decode cX8_need 32 = .ok (.invokevirtual 33, 3) := by decide +kernel
theorem dX8_need_35 : decode cX8_need 35 = .ok (.return_, 1) := by decide +kernel
theorem dX8_accept_0 : decode cX8_accept 0 = .ok (.aload_n 0, 1) := by decide +kernel
theorem dX8_accept_1 : decode cX8_accept 1 = .ok (.getfield 7, 3) := by decide +kernel
theorem dX8_accept_4 : decode cX8_accept 4 = .ok (.invokevirtual 23, 3) := by decide +kernel
theorem dX8_accept_7 : decode cX8_accept 7 = .ok (.iload_n 1, 1) := by decide +kernel
theorem dX8_accept_8 : decode cX8_accept 8 = .ok (.if_icmp .eq 5, 3) := by decide +kernel
theorem dX8_accept_11 : decode cX8_accept 11 = .ok (.iconst 0, 1) := by decide +kernel
theorem dX8_accept_12 : decode cX8_accept 12 = .ok (.ireturn, 1) := by decide +kernel
theorem dX8_readClass_0 : decode cX8_readClass 0 = .ok (.aload_n 0, 1) := by decide +kernel
theorem dX8_readClass_1 : decode cX8_readClass 1 = .ok (.bipush 13, 2) := by decide +kernel
theorem dX8_readClass_3 : decode cX8_readClass 3 = .ok (.invokevirtual 37, 3) := by decide +kernel
theorem dX8_readClass_6 : decode cX8_readClass 6 = .ok (.aload_n 0, 1) := by decide +kernel
theorem dX8_readClass_7 : decode cX8_readClass 7 = .ok (.getfield 13, 3) := by decide +kernel
theorem dX8_readClass_10 : decode cX8_readClass 10 = .ok (.aload_n 0, 1) := by decide +kernel
theorem dX8_readClass_11 : decode cX8_readClass 11 = .ok (.getfield 7, 3) := by decide +kernel
theorem dX8_readClass_14 : decode cX8_readClass 14 = .ok (.getfield 30, 3) := by decide +kernel
theorem dX8_readClass_17 : decode cX8_readClass 17 = .ok (.invokevirtual 40, 3) := by decide +kernel
theorem dX8_readClass_20 : decode cX8_readClass 20 = .ok (.aload_n 0, 1) := by decide +kernel
theorem dX8_readClass_21 : decode cX8_readClass 21 = .ok (.iconst 2, 1) := by decide +kernel
theorem dX8_readClass_22 : decode cX8_readClass 22 = .ok (.invokevirtual 37, 3) := by decide +kernel
theorem dX8_readClass_25 : decode cX8_readClass 25 = .ok (.aload_n 0, 1) := by decide +kernel
theorem dX8_readClass_26 : decode cX8_readClass 26 = .ok (.bipush 16, 2) := by decide +kernel
theorem dX8_readClass_28 : decode cX8_readClass 28 = .ok (.invokevirtual 45, 3) := by decide +kernel
theorem dX8_readClass_31 : decode cX8_readClass 31 = .ok (.ifCond .eq 8, 3) := by decide +kernel
theorem dX8_readClass_39 : decode cX8_readClass 39 = .ok (.aload_n 0, 1) := by decide +kernel
theorem dX8_readClass_40 : decode cX8_readClass 40 = .ok (.bipush 42, 2) := by decide +kernel
theorem dX8_readClass_42 : decode cX8_readClass 42 = .ok (.invokevirtual 37, 3) := by decide +kernel
theorem dX8_readClass_45 : decode cX8_readClass 45 = .ok (.iconst 0, 1) := by decide +kernel
theorem dX8_readClass_46 : decode cX8_readClass 46 = .ok (.istore_n 1, 1) := by decide +kernel
theorem dX8_readClass_47 : decode cX8_readClass 47 = .ok (.iload_n 1, 1) := by decide +kernel
theorem dX8_readClass_48 : decode cX8_readClass 48 = .ok (.sipush 3000, 3) := by decide +kernel
theorem dX8_readClass_51 : decode cX8_readClass 51 = .ok (.if_icmp .ge 35, 3) := by decide +kernel
theorem dX8_readClass_54 : decode cX8_readClass 54 = .ok (.aload_n 0, 1) := by decide +kernel
theorem dX8_readClass_55 : decode cX8_readClass 55 = .ok (.getfield 7, 3) := by decide +kernel
theorem dX8_readClass_58 : decode cX8_readClass 58 = .ok (.getfield 19, 3) := by decide +kernel
theorem dX8_readClass_61 : decode cX8_readClass 61 = .ok (.ifCond .ne 25, 3) := by decide +kernel
theorem dX8_readClass_86 : decode cX8_readClass 86 = .ok (.aload_n 0, 1) := by decide +kernel
theorem dX8_readClass_87 : decode cX8_readClass 87 = .ok (.bipush 43, 2) := by decide +kernel
theorem dX8_readClass_89 : decode cX8_readClass 89 = .ok (.invokevirtual 37, 3) := by decide +kernel
theorem dX8_readClass_92 : decode cX8_readClass 92 = .ok (.return_, 1) := by decide +kernel
theorem dX9_tellHere_0 : decode cX9_tellHere 0 = .ok (.aload_n 0, 1) := by decide +kernel
theorem dX9_tellHere_1 : decode cX9_tellHere 1 = .ok (.getfield 80, 3) := by decide +kernel
theorem dX9_tellHere_4 : decode cX9_tellHere 4 = .ok (.ifCond .ne 56, 3) := by decide +kernel
theorem dX9_tellHere_7 : decode cX9_tellHere 7 = .ok (.aload_n 0, 1) := by decide +kernel
theorem dX9_tellHere_8 : decode cX9_tellHere 8 = .ok (.getfield 86, 3) := by decide +kernel
theorem dX9_tellHere_11 : decode cX9_tellHere 11 = .ok (.ifCond .lt 49, 3) := by decide +kernel
theorem dX9_tellHere_14 : decode cX9_tellHere 14 = .ok (.aload_n 0, 1) := by decide +kernel
theorem dX9_tellHere_15 : decode cX9_tellHere 15 = .ok (.getfield 86, 3) := by decide +kernel
theorem dX9_tellHere_18 : decode cX9_tellHere 18 = .ok (.aload_n 0, 1) := by decide +kernel
theorem dX9_tellHere_19 : decode cX9_tellHere 19 = .ok (.getfield 83, 3) := by decide +kernel
theorem dX9_tellHere_22 : decode cX9_tellHere 22 = .ok (.if_icmp .ge 38, 3) := by decide +kernel
theorem dX9_tellHere_25 : decode cX9_tellHere 25 = .ok (.aload_n 0, 1) := by decide +kernel
theorem dX9_tellHere_26 : decode cX9_tellHere 26 = .ok (.aload_n 0, 1) := by decide +kernel
theorem dX9_tellHere_27 : decode cX9_tellHere 27 = .ok (.getfield 15, 3) := by decide +kernel
theorem dX9_tellHere_30 : decode cX9_tellHere 30 = .ok (.aload_n 0, 1) := by decide +kernel
theorem dX9_tellHere_31 : decode cX9_tellHere 31 = .ok (.getfield 86, 3) := by decide +kernel
theorem dX9_tellHere_34 : decode cX9_tellHere 34 = .ok (.iaload, 1) := by decide +kernel
theorem dX9_tellHere_35 : decode cX9_tellHere 35 = .ok (.iconst 1, 1) := by decide +kernel
theorem dX9_tellHere_36 : decode cX9_tellHere 36 = .ok (.if_icmp .ne 7, 3) := by decide +kernel
theorem dX9_tellHere_43 : decode cX9_tellHere 43 = .ok (.iload_n 1, 1) := by decide +kernel
theorem dX9_tellHere_44 : decode cX9_tellHere 44 = .ok (.putfield 80, 3) := by decide +kernel
theorem dX9_tellHere_47 : decode cX9_tellHere 47 = .ok (.aload_n 0, 1) := by decide +kernel
theorem dX9_tellHere_48 : decode cX9_tellHere 48 = .ok (.aload_n 0, 1) := by decide +kernel
theorem dX9_tellHere_49 : decode cX9_tellHere 49 = .ok (.getfield 19, 3) := by decide +kernel
theorem dX9_tellHere_52 : decode cX9_tellHere 52 = .ok (.aload_n 0, 1) := by decide +kernel
theorem dX9_tellHere_53 : decode cX9_tellHere 53 = .ok (.getfield 86, 3) := by decide +kernel
theorem dX9_tellHere_56 : decode cX9_tellHere 56 = .ok (.iaload, 1) := by decide +kernel
theorem dX9_tellHere_57 : decode cX9_tellHere 57 = .ok (.putfield 41, 3) := by decide +kernel
theorem dX9_tellHere_60 : decode cX9_tellHere 60 = .ok (.return_, 1) := by decide +kernel
theorem dX9_kind_0 : decode cX9_kind 0 = .ok (.aload_n 0, 1) := by decide +kernel
theorem dX9_kind_1 : decode cX9_kind 1 = .ok (.getfield 80, 3) := by decide +kernel
theorem dX9_kind_4 : decode cX9_kind 4 = .ok (.ifCond .ne 33, 3) := by decide +kernel
theorem dX9_kind_7 : decode cX9_kind 7 = .ok (.aload_n 0, 1) := by decide +kernel
theorem dX9_kind_8 : decode cX9_kind 8 = .ok (.getfield 86, 3) := by decide +kernel
theorem dX9_kind_11 : decode cX9_kind 11 = .ok (.ifCond .lt 26, 3) := by decide +kernel
theorem dX9_kind_14 : decode cX9_kind 14 = .ok (.aload_n 0, 1) := by decide +kernel
theorem dX9_kind_15 : decode cX9_kind 15 = .ok (.getfield 86, 3) := by decide +kernel
theorem dX9_kind_18 : decode cX9_kind 18 = .ok (.aload_n 0, 1) := by decide +kernel
theorem dX9_kind_19 : decode cX9_kind 19 = .ok (.getfield 83, 3) := by decide +kernel
theorem dX9_kind_22 : decode cX9_kind 22 = .ok (.if_icmp .ge 15, 3) := by decide +kernel
theorem dX9_kind_25 : decode cX9_kind 25 = .ok (.aload_n 0, 1) := by decide +kernel
theorem dX9_kind_26 : decode cX9_kind 26 = .ok (.getfield 15, 3) := by decide +kernel
theorem dX9_kind_29 : decode cX9_kind 29 = .ok (.aload_n 0, 1) := by decide +kernel
theorem dX9_kind_30 : decode cX9_kind 30 = .ok (.getfield 86, 3) := by decide +kernel
theorem dX9_kind_33 : decode cX9_kind 33 = .ok (.iaload, 1) := by decide +kernel
theorem dX9_kind_34 : decode cX9_kind 34 = .ok (.goto 4, 3) := by decide +kernel
theorem dX9_kind_37 : decode cX9_kind 37 = .ok (.iconst 0, 1) := by decide +kernel
theorem dX9_kind_38 : decode cX9_kind 38 = .ok (.ireturn, 1) := by decide +kernel
theorem dX9_scan_0 : decode cX9_scan 0 = .ok (.aload_n 0, 1) := by decide +kernel
theorem dX9_scan_1 : decode cX9_scan 1 = .ok (.bipush 32, 2) := by decide +kernel
theorem dX9_scan_3 : decode cX9_scan 3 = .ok (.putfield 73, 3) := by decide +kernel
theorem dX9_scan_6 : decode cX9_scan 6 = .ok (.aload_n 0, 1) := by decide +kernel
theorem dX9_scan_7 : decode cX9_scan 7 = .ok (.getfield 38, 3) := by decide +kernel
theorem dX9_scan_10 : decode cX9_scan 10 = .ok (.iconst 0, 1) := by decide +kernel
theorem dX9_scan_11 : decode cX9_scan 11 = .ok (.aload_n 0, 1) := by decide +kernel
theorem dX9_scan_12 : decode cX9_scan 12 = .ok (.getfield 35, 3) := by decide +kernel
theorem dX9_scan_15 : decode cX9_scan 15 = .ok (.iconst 0, 1) := by decide +kernel
theorem dX9_scan_16 : decode cX9_scan 16 = .ok (.bipush 64, 2) := by decide +kernel
theorem dX9_scan_18 : decode cX9_scan 18 = .ok (.invokestatic 67, 3) := by decide +kernel
theorem dX9_scan_21 : decode cX9_scan 21 = .ok (.aload_n 0, 1) := by decide +kernel
theorem dX9_scan_22 : decode cX9_scan 22 = .ok (.iconst 0, 1) := by decide +kernel
theorem dX9_scan_23 : decode cX9_scan 23 = .ok (.putfield 83, 3) := by decide +kernel
theorem dX9_scan_26 : decode cX9_scan 26 = .ok (.aload_n 0, 1) := by decide +kernel
theorem dX9_scan_27 : decode cX9_scan 27 = .ok (.iconst 0, 1) := by decide +kernel
theorem dX9_scan_28 : decode cX9_scan 28 = .ok (.putfield 86, 3) := by decide +kernel
theorem dX9_scan_31 : decode cX9_scan 31 = .ok (.aload_n 0, 1) := by decide +kernel
theorem dX9_scan_32 : decode cX9_scan 32 = .ok (.iconst 0, 1) := by decide +kernel
theorem dX9_scan_33 : decode cX9_scan 33 = .ok (.putfield 80, 3) := by decide +kernel
theorem dX9_scan_36 : decode cX9_scan 36 = .ok (.aload_n 0, 1) := by decide +kernel
theorem dX9_scan_37 : decode cX9_scan 37 = .ok (.iconst (-1), 1) := by decide +kernel
theorem dX9_scan_38 : decode cX9_scan 38 = .ok (.putfield 41, 3) := by decide +kernel
theorem dX9_scan_41 : decode cX9_scan 41 = .ok (.aload_n 1, 1) := by decide +kernel
theorem dX9_scan_42 : decode cX9_scan 42 = .ok (.iload_n 2, 1) := by decide +kernel
theorem dX9_scan_43 : decode cX9_scan 43 = .ok (.iconst 0, 1) := by decide +kernel
theorem dX9_scan_44 : decode cX9_scan 44 = .ok (.invokestatic 93, 3) := by decide +kernel
theorem dX9_scan_47 : decode cX9_scan 47 = .ok (.istore_n 3, 1) := by decide +kernel
theorem dX9_scan_48 : decode cX9_scan 48 = .ok (.iconst 0, 1) := by decide +kernel
theorem dX9_scan_49 : decode cX9_scan 49 = .ok (.istore 4, 2) := by decide +kernel
theorem dX9_scan_51 : decode cX9_scan 51 = .ok (.iload 4, 2) := by decide +kernel
theorem dX9_scan_53 : decode cX9_scan 53 = .ok (.sipush 3000, 3) := by decide +kernel
theorem dX9_scan_56 : decode cX9_scan 56 = .ok (.if_icmp .ge 46, 3) := by decide +kernel
theorem dX9_scan_59 : decode cX9_scan 59 = .ok (.iload_n 3, 1) := by decide +kernel
theorem dX9_scan_60 : decode cX9_scan 60 = .ok (.iload_n 2, 1) := by decide +kernel
theorem dX9_scan_61 : decode cX9_scan 61 = .ok (.if_icmp .ge 41, 3) := by decide +kernel
theorem dX9_scan_102 : decode cX9_scan 102 = .ok (.aload_n 0, 1) := by decide +kernel
theorem dX9_scan_103 : decode cX9_scan 103 = .ok (.iconst 0, 1) := by decide +kernel
theorem dX9_scan_104 : decode cX9_scan 104 = .ok (.iload_n 2, 1) := by decide +kernel
theorem dX9_scan_105 : decode cX9_scan 105 = .ok (.iconst 0, 1) := by decide +kernel
theorem dX9_scan_106 : decode cX9_scan 106 = .ok (.invokevirtual 99, 3) := by decide +kernel
theorem dX9_scan_109 : decode cX9_scan 109 = .ok (.return_, 1) := by decide +kernel
theorem dX9_addToken_0 : decode cX9_addToken 0 = .ok (.aload_n 0, 1) := by decide +kernel
theorem dX9_addToken_1 : decode cX9_addToken 1 = .ok (.getfield 83, 3) := by decide +kernel
theorem dX9_addToken_4 : decode cX9_addToken 4 = .ok (.aload_n 0, 1) := by decide +kernel
theorem dX9_addToken_5 : decode cX9_addToken 5 = .ok (.getfield 15, 3) := by decide +kernel
theorem dX9_addToken_8 : decode cX9_addToken 8 = .ok (.arraylength, 1) := by decide +kernel
theorem dX9_addToken_9 : decode cX9_addToken 9 = .ok (.if_icmp .ge 43, 3) := by decide +kernel
theorem dX9_addToken_12 : decode cX9_addToken 12 = .ok (.aload_n 0, 1) := by decide +kernel
theorem dX9_addToken_13 : decode cX9_addToken 13 = .ok (.getfield 15, 3) := by decide +kernel
theorem dX9_addToken_16 : decode cX9_addToken 16 = .ok (.aload_n 0, 1) := by decide +kernel
theorem dX9_addToken_17 : decode cX9_addToken 17 = .ok (.getfield 83, 3) := by decide +kernel
theorem dX9_addToken_20 : decode cX9_addToken 20 = .ok (.iload_n 1, 1) := by decide +kernel
theorem dX9_addToken_21 : decode cX9_addToken 21 = .ok (.iastore, 1) := by decide +kernel
theorem dX9_addToken_22 : decode cX9_addToken 22 = .ok (.aload_n 0, 1) := by decide +kernel
theorem dX9_addToken_23 : decode cX9_addToken 23 = .ok (.getfield 19, 3) := by decide +kernel
theorem dX9_addToken_26 : decode cX9_addToken 26 = .ok (.aload_n 0, 1) := by decide +kernel
theorem dX9_addToken_27 : decode cX9_addToken 27 = .ok (.getfield 83, 3) := by decide +kernel
theorem dX9_addToken_30 : decode cX9_addToken 30 = .ok (.iload_n 2, 1) := by decide +kernel
theorem dX9_addToken_31 : decode cX9_addToken 31 = .ok (.iastore, 1) := by decide +kernel
theorem dX9_addToken_32 : decode cX9_addToken 32 = .ok (.aload_n 0, 1) := by decide +kernel
theorem dX9_addToken_33 : decode cX9_addToken 33 = .ok (.getfield 22, 3) := by decide +kernel
theorem dX9_addToken_36 : decode cX9_addToken 36 = .ok (.aload_n 0, 1) := by decide +kernel
theorem dX9_addToken_37 : decode cX9_addToken 37 = .ok (.getfield 83, 3) := by decide +kernel
theorem dX9_addToken_40 : decode cX9_addToken 40 = .ok (.iload_n 3, 1) := by decide +kernel
theorem dX9_addToken_41 : decode cX9_addToken 41 = .ok (.iastore, 1) := by decide +kernel
theorem dX9_addToken_42 : decode cX9_addToken 42 = .ok (.aload_n 0, 1) := by decide +kernel
theorem dX9_addToken_43 : decode cX9_addToken 43 = .ok (.dup, 1) := by decide +kernel
theorem dX9_addToken_44 : decode cX9_addToken 44 = .ok (.getfield 83, 3) := by decide +kernel
theorem dX9_addToken_47 : decode cX9_addToken 47 = .ok (.iconst 1, 1) := by decide +kernel
theorem dX9_addToken_48 : decode cX9_addToken 48 = .ok (.iadd, 1) := by decide +kernel
theorem dX9_addToken_49 : decode cX9_addToken 49 = .ok (.putfield 83, 3) := by decide +kernel
theorem dX9_addToken_52 : decode cX9_addToken 52 = .ok (.return_, 1) := by decide +kernel
theorem dX9_behindBlanks_0 : decode cX9_behindBlanks 0 = .ok (.iload_n 2, 1) := by decide +kernel
theorem dX9_behindBlanks_1 : decode cX9_behindBlanks 1 = .ok (.istore_n 3, 1) := by decide +kernel
theorem dX9_behindBlanks_2 : decode cX9_behindBlanks 2 = .ok (.iconst 0, 1) := by decide +kernel
theorem dX9_behindBlanks_3 : decode cX9_behindBlanks 3 = .ok (.istore 4, 2) := by decide +kernel
theorem dX9_behindBlanks_5 : decode cX9_behindBlanks 5 = .ok (.iload_n 3, 1) := by decide +kernel
theorem dX9_behindBlanks_6 : decode cX9_behindBlanks 6 = .ok (.iload_n 1, 1) := by decide +kernel
theorem dX9_behindBlanks_7 : decode cX9_behindBlanks 7 = .ok (.if_icmp .ge 71, 3) := by decide +kernel
theorem dX9_behindBlanks_78 : decode cX9_behindBlanks 78 = .ok (.iload_n 3, 1) := by decide +kernel
theorem dX9_behindBlanks_79 : decode cX9_behindBlanks 79 = .ok (.ireturn, 1) := by decide +kernel
theorem dX11_proveHeads_0 : decode cX11_proveHeads 0 = .ok (.bipush 8, 2) := by decide +kernel
theorem dX11_proveHeads_2 : decode cX11_proveHeads 2 = .ok (.istore_n 1, 1) := by decide +kernel
theorem dX11_proveHeads_3 : decode cX11_proveHeads 3 = .ok (.iload_n 1, 1) := by decide +kernel
theorem dX11_proveHeads_4 : decode cX11_proveHeads 4 = .ok (.bipush 8, 2) := by decide +kernel
theorem dX11_proveHeads_6 : decode cX11_proveHeads 6 = .ok (.aload_n 0, 1) := by decide +kernel
theorem dX11_proveHeads_7 : decode cX11_proveHeads 7 = .ok (.getfield 50, 3) := by decide +kernel
theorem dX11_proveHeads_10 : decode cX11_proveHeads 10 = .ok (.getfield 68, 3) := by decide +kernel
theorem dX11_proveHeads_13 : decode cX11_proveHeads 13 = .ok (.iadd, 1) := by decide +kernel
theorem dX11_proveHeads_14 : decode cX11_proveHeads 14 = .ok (.if_icmp .ge 86, 3) := by decide +kernel
theorem dX11_proveHeads_100 : decode cX11_proveHeads 100 = .ok (.iconst 0, 1) := by decide +kernel
theorem dX11_proveHeads_101 : decode cX11_proveHeads 101 = .ok (.ireturn, 1) := by decide +kernel
theorem dX11_proveMethods_0 : decode cX11_proveMethods 0 = .ok (.bipush 8, 2) := by decide +kernel
theorem dX11_proveMethods_2 : decode cX11_proveMethods 2 = .ok (.istore_n 1, 1) := by decide +kernel
theorem dX11_proveMethods_3 : decode cX11_proveMethods 3 = .ok (.iload_n 1, 1) := by decide +kernel
theorem dX11_proveMethods_4 : decode cX11_proveMethods 4 = .ok (.bipush 8, 2) := by decide +kernel
theorem dX11_proveMethods_6 : decode cX11_proveMethods 6 = .ok (.aload_n 0, 1) := by decide +kernel
theorem dX11_proveMethods_7 : decode cX11_proveMethods 7 = .ok (.getfield 50, 3) := by decide +kernel
theorem dX11_proveMethods_10 : decode cX11_proveMethods 10 = .ok (.getfield 68, 3) := by decide +kernel
theorem dX11_proveMethods_13 : decode cX11_proveMethods 13 = .ok (.iadd, 1) := by decide +kernel
theorem dX11_proveMethods_14 : decode cX11_proveMethods 14 = .ok (.if_icmp .ge 133, 3) := by decide +kernel
theorem dX11_proveMethods_147 : decode cX11_proveMethods 147 = .ok (.iconst 0, 1) := by decide +kernel
theorem dX11_proveMethods_148 : decode cX11_proveMethods 148 = .ok (.ireturn, 1) := by decide +kernel
theorem dX12_feed_0 : decode cX12_feed 0 = .ok (.aload_n 0, 1) := by decide +kernel
theorem dX12_feed_1 : decode cX12_feed 1 = .ok (.getfield 73, 3) := by decide +kernel
theorem dX12_feed_4 : decode cX12_feed 4 = .ok (.bipush 20, 2) := by decide +kernel
theorem dX12_feed_6 : decode cX12_feed 6 = .ok (.iadd, 1) := by decide +kernel
theorem dX12_feed_7 : decode cX12_feed 7 = .ok (.sipush 6000, 3) := by decide +kernel
theorem dX12_feed_10 : decode cX12_feed 10 = .ok (.if_icmp .le 5, 3) := by decide +kernel
theorem dX12_feed_15 : decode cX12_feed 15 = .ok (.aload_n 0, 1) := by decide +kernel
theorem dX12_feed_16 : decode cX12_feed 16 = .ok (.iload_n 1, 1) := by decide +kernel
theorem dX12_feed_17 : decode cX12_feed 17 = .ok (.invokevirtual 77, 3) := by decide +kernel
theorem dX12_feed_20 : decode cX12_feed 20 = .ok (.aload_n 0, 1) := by decide +kernel
theorem dX12_feed_21 : decode cX12_feed 21 = .ok (.iload_n 2, 1) := by decide +kernel
theorem dX12_feed_22 : decode cX12_feed 22 = .ok (.invokevirtual 77, 3) := by decide +kernel
theorem dX12_feed_25 : decode cX12_feed 25 = .ok (.aload_n 0, 1) := by decide +kernel
theorem dX12_feed_26 : decode cX12_feed 26 = .ok (.iload_n 3, 1) := by decide +kernel
theorem dX12_feed_27 : decode cX12_feed 27 = .ok (.invokevirtual 77, 3) := by decide +kernel
theorem dX12_feed_30 : decode cX12_feed 30 = .ok (.aload_n 0, 1) := by decide +kernel
theorem dX12_feed_31 : decode cX12_feed 31 = .ok (.iload 4, 2) := by decide +kernel
theorem dX12_feed_33 : decode cX12_feed 33 = .ok (.invokevirtual 77, 3) := by decide +kernel
theorem dX12_feed_36 : decode cX12_feed 36 = .ok (.aload_n 0, 1) := by decide +kernel
theorem dX12_feed_37 : decode cX12_feed 37 = .ok (.iload 5, 2) := by decide +kernel
theorem dX12_feed_39 : decode cX12_feed 39 = .ok (.invokevirtual 77, 3) := by decide +kernel
theorem dX12_feed_42 : decode cX12_feed 42 = .ok (.aload_n 0, 1) := by decide +kernel
theorem dX12_feed_43 : decode cX12_feed 43 = .ok (.getfield 73, 3) := by decide +kernel
theorem dX12_feed_46 : decode cX12_feed 46 = .ok (.ireturn, 1) := by decide +kernel
theorem dX12_putNumber_0 : decode cX12_putNumber 0 = .ok (.bipush 24, 2) := by decide +kernel
theorem dX12_putNumber_2 : decode cX12_putNumber 2 = .ok (.istore_n 2, 1) := by decide +kernel
theorem dX12_putNumber_3 : decode cX12_putNumber 3 = .ok (.iload_n 2, 1) := by decide +kernel
theorem dX12_putNumber_4 : decode cX12_putNumber 4 = .ok (.ifCond .lt 44, 3) := by decide +kernel
theorem dX12_putNumber_7 : decode cX12_putNumber 7 = .ok (.aload_n 0, 1) := by decide +kernel
theorem dX12_putNumber_8 : decode cX12_putNumber 8 = .ok (.getfield 73, 3) := by decide +kernel
theorem dX12_putNumber_11 : decode cX12_putNumber 11 = .ok (.aload_n 0, 1) := by decide +kernel
theorem dX12_putNumber_12 : decode cX12_putNumber 12 = .ok (.getfield 9, 3) := by decide +kernel
theorem dX12_putNumber_15 : decode cX12_putNumber 15 = .ok (.arraylength, 1) := by decide +kernel
theorem dX12_putNumber_16 : decode cX12_putNumber 16 = .ok (.if_icmp .ge 26, 3) := by decide +kernel
theorem dX12_putNumber_19 : decode cX12_putNumber 19 = .ok (.aload_n 0, 1) := by decide +kernel
theorem dX12_putNumber_20 : decode cX12_putNumber 20 = .ok (.getfield 9, 3) := by decide +kernel
theorem dX12_putNumber_23 : decode cX12_putNumber 23 = .ok (.aload_n 0, 1) := by decide +kernel
theorem dX12_putNumber_24 : decode cX12_putNumber 24 = .ok (.getfield 73, 3) := by decide +kernel
theorem dX12_putNumber_27 : decode cX12_putNumber 27 = .ok (.iload_n 1, 1) := by decide +kernel
theorem dX12_putNumber_28 : decode cX12_putNumber 28 = .ok (.iload_n 2, 1) := by decide +kernel
theorem dX12_putNumber_29 : decode cX12_putNumber 29 = .ok (.ishr, 1) := by decide +kernel
theorem dX12_putNumber_30 : decode cX12_putNumber 30 = .ok (.i2b, 1) := by decide +kernel
theorem dX12_putNumber_31 : decode cX12_putNumber 31 = .ok (.bastore, 1) := by decide +kernel
theorem dX12_putNumber_32 : decode cX12_putNumber 32 = .ok (.aload_n 0, 1) := by decide +kernel
theorem dX12_putNumber_33 : decode cX12_putNumber 33 = .ok (.dup, 1) := by decide +kernel
theorem dX12_putNumber_34 : decode cX12_putNumber 34 = .ok (.getfield 73, 3) := by decide +kernel
theorem dX12_putNumber_37 : decode cX12_putNumber 37 = .ok (.iconst 1, 1) := by decide +kernel
theorem dX12_putNumber_38 : decode cX12_putNumber 38 = .ok (.iadd, 1) := by decide +kernel
theorem dX12_putNumber_39 : decode cX12_putNumber 39 = .ok (.putfield 73, 3) := by decide +kernel
theorem dX12_putNumber_42 : decode cX12_putNumber 42 = .ok (.iinc 2 (-8), 3) := by decide +kernel
theorem dX12_putNumber_45 : decode cX12_putNumber 45 = .ok (.goto (-42), 3) := by decide +kernel
theorem dX12_putNumber_48 : decode cX12_putNumber 48 = .ok (.return_, 1) := by decide +kernel
theorem dX12_end_0 : decode cX12_end 0 = .ok (.iload_n 1, 1) := by decide +kernel
theorem dX12_end_1 : decode cX12_end 1 = .ok (.ifCond .lt 11, 3) := by decide +kernel
theorem dX12_end_4 : decode cX12_end 4 = .ok (.iload_n 1, 1) := by decide +kernel
theorem dX12_end_5 : decode cX12_end 5 = .ok (.aload_n 0, 1) := by decide +kernel
theorem dX12_end_6 : decode cX12_end 6 = .ok (.getfield 73, 3) := by decide +kernel
theorem dX12_end_9 : decode cX12_end 9 = .ok (.if_icmp .le 5, 3) := by decide +kernel
theorem dX12_end_12 : decode cX12_end 12 = .ok (.iconst 0, 1) := by decide +kernel
theorem dX12_end_13 : decode cX12_end 13 = .ok (.ireturn, 1) := by decide +kernel
theorem dX12_end_14 : decode cX12_end 14 = .ok (.aload_n 0, 1) := by decide +kernel
theorem dX12_end_15 : decode cX12_end 15 = .ok (.iload_n 1, 1) := by decide +kernel
theorem dX12_end_16 : decode cX12_end 16 = .ok (.putfield 73, 3) := by decide +kernel
theorem dX12_end_19 : decode cX12_end 19 = .ok (.iconst 1, 1) := by decide +kernel
theorem dX12_end_20 : decode cX12_end 20 = .ok (.ireturn, 1) := by decide +kernel
theorem dX12_compile_0 : decode cX12_compile 0 = .ok (.aload_n 0, 1) := by decide +kernel
theorem dX12_compile_1 : decode cX12_compile 1 = .ok (.getfield 73, 3) := by decide +kernel
theorem dX12_compile_4 : decode cX12_compile 4 = .ok (.istore_n 1, 1) := by decide +kernel
theorem dX12_compile_5 : decode cX12_compile 5 = .ok (.aload_n 0, 1) := by decide +kernel
theorem dX12_compile_6 : decode cX12_compile 6 = .ok (.iconst 0, 1) := by decide +kernel
theorem dX12_compile_7 : decode cX12_compile 7 = .ok (.putfield 73, 3) := by decide +kernel
theorem dX12_compile_10 : decode cX12_compile 10 = .ok (.iload_n 1, 1) := by decide +kernel
theorem dX12_compile_11 : decode cX12_compile 11 = .ok (.sipush 3000, 3) := by decide +kernel
theorem dX12_compile_14 : decode cX12_compile 14 = .ok (.if_icmp .le 16, 3) := by decide +kernel
theorem dX12_compile_30 : decode cX12_compile 30 = .ok (.aload_n 0, 1) := by decide +kernel
theorem dX12_compile_31 : decode cX12_compile 31 = .ok (.getfield 16, 3) := by decide +kernel
theorem dX12_compile_34 : decode cX12_compile 34 = .ok (.aload_n 0, 1) := by decide +kernel
theorem dX12_compile_35 : decode cX12_compile 35 = .ok (.getfield 9, 3) := by decide +kernel
theorem dX12_compile_38 : decode cX12_compile 38 = .ok (.iload_n 1, 1) := by decide +kernel
theorem dX12_compile_39 : decode cX12_compile 39 = .ok (.invokevirtual 85, 3) := by decide +kernel
theorem dX12_compile_42 : decode cX12_compile 42 = .ok (.aload_n 0, 1) := by decide +kernel
theorem dX12_compile_43 : decode cX12_compile 43 = .ok (.getfield 25, 3) := by decide +kernel
theorem dX12_compile_46 : decode cX12_compile 46 = .ok (.invokevirtual 89, 3) := by decide +kernel
theorem dX12_compile_49 : decode cX12_compile 49 = .ok (.aload_n 0, 1) := by decide +kernel
theorem dX12_compile_50 : decode cX12_compile 50 = .ok (.getfield 34, 3) := by decide +kernel
theorem dX12_compile_53 : decode cX12_compile 53 = .ok (.invokevirtual 92, 3) := by decide +kernel
theorem dX12_compile_56 : decode cX12_compile 56 = .ok (.aload_n 0, 1) := by decide +kernel
theorem dX12_compile_57 : decode cX12_compile 57 = .ok (.getfield 25, 3) := by decide +kernel
theorem dX12_compile_60 : decode cX12_compile 60 = .ok (.invokevirtual 95, 3) := by decide +kernel
theorem dX12_compile_63 : decode cX12_compile 63 = .ok (.aload_n 0, 1) := by decide +kernel
theorem dX12_compile_64 : decode cX12_compile 64 = .ok (.getfield 25, 3) := by decide +kernel
theorem dX12_compile_67 : decode cX12_compile 67 = .ok (.invokevirtual 98, 3) := by decide +kernel
theorem dX12_compile_70 : decode cX12_compile 70 = .ok (.aload_n 0, 1) := by decide +kernel
theorem dX12_compile_71 : decode cX12_compile 71 = .ok (.getfield 25, 3) := by decide +kernel
theorem dX12_compile_74 : decode cX12_compile 74 = .ok (.invokevirtual 101, 3) := by decide +kernel
theorem dX12_compile_77 : decode cX12_compile 77 = .ok (.aload_n 0, 1) := by decide +kernel
theorem dX12_compile_78 : decode cX12_compile 78 = .ok (.getfield 25, 3) := by decide +kernel
theorem dX12_compile_81 : decode cX12_compile 81 = .ok (.invokevirtual 104, 3) := by decide +kernel
theorem dX12_compile_84 : decode cX12_compile 84 = .ok (.aload_n 0, 1) := by decide +kernel
theorem dX12_compile_85 : decode cX12_compile 85 = .ok (.getfield 41, 3) := by decide +kernel
theorem dX12_compile_88 : decode cX12_compile 88 = .ok (.invokevirtual 107, 3) := by decide +kernel
theorem dX12_compile_91 : decode cX12_compile 91 = .ok (.iconst 0, 1) := by decide +kernel
theorem dX12_compile_92 : decode cX12_compile 92 = .ok (.istore_n 2, 1) := by decide +kernel
theorem dX12_compile_93 : decode cX12_compile 93 = .ok (.iload_n 2, 1) := by decide +kernel
theorem dX12_compile_94 : decode cX12_compile 94 = .ok (.aload_n 0, 1) := by decide +kernel
theorem dX12_compile_95 : decode cX12_compile 95 = .ok (.getfield 25, 3) := by decide +kernel
theorem dX12_compile_98 : decode cX12_compile 98 = .ok (.getfield 110, 3) := by decide +kernel
theorem dX12_compile_101 : decode cX12_compile 101 = .ok (.if_icmp .ge 74, 3) := by decide +kernel
theorem dX12_compile_104 : decode cX12_compile 104 = .ok (.aload_n 0, 1) := by decide +kernel
theorem dX12_compile_105 : decode cX12_compile 105 = .ok (.getfield 16, 3) := by decide +kernel
theorem dX12_compile_108 : decode cX12_compile 108 = .ok (.getfield 113, 3) := by decide +kernel
theorem dX12_compile_111 : decode cX12_compile 111 = .ok (.ifCond .ne 64, 3) := by decide +kernel
theorem dX12_compile_175 : decode cX12_compile 175 = .ok (.aload_n 0, 1) := by decide +kernel
theorem dX12_compile_176 : decode cX12_compile 176 = .ok (.getfield 41, 3) := by decide +kernel
theorem dX12_compile_179 : decode cX12_compile 179 = .ok (.invokevirtual 129, 3) := by decide +kernel
theorem dX12_compile_182 : decode cX12_compile 182 = .ok (.aload_n 0, 1) := by decide +kernel
theorem dX12_compile_183 : decode cX12_compile 183 = .ok (.getfield 16, 3) := by decide +kernel
theorem dX12_compile_186 : decode cX12_compile 186 = .ok (.getfield 113, 3) := by decide +kernel
theorem dX12_compile_189 : decode cX12_compile 189 = .ok (.ifCond .ne 10, 3) := by decide +kernel
theorem dX12_compile_199 : decode cX12_compile 199 = .ok (.iconst (-1), 1) := by decide +kernel
theorem dX12_compile_200 : decode cX12_compile 200 = .ok (.ireturn, 1) := by decide +kernel
theorem dX12_fault_0 : decode cX12_fault 0 = .ok (.iload_n 1, 1) := by decide +kernel
theorem dX12_fault_1 : decode cX12_fault 1 = .ok (.ifCond .ne 11, 3) := by decide +kernel
theorem dX12_fault_4 : decode cX12_fault 4 = .ok (.aload_n 0, 1) := by decide +kernel
theorem dX12_fault_5 : decode cX12_fault 5 = .ok (.getfield 16, 3) := by decide +kernel
theorem dX12_fault_8 : decode cX12_fault 8 = .ok (.getfield 113, 3) := by decide +kernel
theorem dX12_fault_11 : decode cX12_fault 11 = .ok (.ireturn, 1) := by decide +kernel
theorem dX12_fault_12 : decode cX12_fault 12 = .ok (.iload_n 1, 1) := by decide +kernel
theorem dX12_fault_13 : decode cX12_fault 13 = .ok (.iconst 1, 1) := by decide +kernel
theorem dX12_fault_14 : decode cX12_fault 14 = .ok (.if_icmp .ne 23, 3) := by decide +kernel
theorem dX12_fault_17 : decode cX12_fault 17 = .ok (.aload_n 0, 1) := by decide +kernel
theorem dX12_fault_18 : decode cX12_fault 18 = .ok (.getfield 16, 3) := by decide +kernel
theorem dX12_fault_21 : decode cX12_fault 21 = .ok (.getfield 113, 3) := by decide +kernel
theorem dX12_fault_24 : decode cX12_fault 24 = .ok (.ifCond .eq 13, 3) := by decide +kernel
theorem dX12_fault_37 : decode cX12_fault 37 = .ok (.iconst (-1), 1) := by decide +kernel
theorem dX12_fault_38 : decode cX12_fault 38 = .ok (.ireturn, 1) := by decide +kernel
theorem dX12_imageOf_0 : decode cX12_imageOf 0 = .ok (.iload_n 1, 1) := by decide +kernel
theorem dX12_imageOf_1 : decode cX12_imageOf 1 = .ok (.ifCond .lt 29, 3) := by decide +kernel
theorem dX12_imageOf_4 : decode cX12_imageOf 4 = .ok (.iload_n 1, 1) := by decide +kernel
theorem dX12_imageOf_5 : decode cX12_imageOf 5 = .ok (.aload_n 0, 1) := by decide +kernel
theorem dX12_imageOf_6 : decode cX12_imageOf 6 = .ok (.getfield 136, 3) := by decide +kernel
theorem dX12_imageOf_9 : decode cX12_imageOf 9 = .ok (.if_icmp .ge 21, 3) := by decide +kernel
theorem dX12_imageOf_12 : decode cX12_imageOf 12 = .ok (.iload_n 1, 1) := by decide +kernel
theorem dX12_imageOf_13 : decode cX12_imageOf 13 = .ok (.aload_n 0, 1) := by decide +kernel
theorem dX12_imageOf_30 : decode cX12_imageOf 30 = .ok (.aconst_null, 1) := by decide +kernel
theorem dX12_imageOf_31 : decode cX12_imageOf 31 = .ok (.areturn, 1) := by decide +kernel
theorem dX12_image_0 : decode cX12_image 0 = .ok (.aload_n 0, 1) := by decide +kernel
theorem dX12_image_1 : decode cX12_image 1 = .ok (.iload_n 1, 1) := by decide +kernel
theorem dX12_image_2 : decode cX12_image 2 = .ok (.invokevirtual 146, 3) := by decide +kernel
theorem dX12_image_5 : decode cX12_image 5 = .ok (.astore_n 3, 1) := by decide +kernel
theorem dX12_image_6 : decode cX12_image 6 = .ok (.aload_n 3, 1) := by decide +kernel
theorem dX12_image_7 : decode cX12_image 7 = .ok (.ifnonnull 5, 3) := by decide +kernel
theorem dX12_image_10 : decode cX12_image 10 = .ok (.iconst (-1), 1) := by decide +kernel
theorem dX12_image_11 : decode cX12_image 11 = .ok (.ireturn, 1) := by decide +kernel
theorem dX12_load_0 : decode cX12_load 0 = .ok (.aload_n 0, 1) := by decide +kernel
theorem dX12_load_1 : decode cX12_load 1 = .ok (.getfield 53, 3) := by decide +kernel
theorem dX12_load_4 : decode cX12_load 4 = .ok (.aload_n 0, 1) := by decide +kernel
theorem dX12_load_5 : decode cX12_load 5 = .ok (.getfield 9, 3) := by decide +kernel
theorem dX12_load_8 : decode cX12_load 8 = .ok (.aload_n 0, 1) := by decide +kernel
theorem dX12_load_9 : decode cX12_load 9 = .ok (.getfield 73, 3) := by decide +kernel
theorem dX12_load_12 : decode cX12_load 12 = .ok (.invokevirtual 149, 3) := by decide +kernel
theorem dX12_load_15 : decode cX12_load 15 = .ok (.istore_n 1, 1) := by decide +kernel
theorem dX12_load_16 : decode cX12_load 16 = .ok (.aload_n 0, 1) := by decide +kernel
theorem dX12_load_17 : decode cX12_load 17 = .ok (.iconst 0, 1) := by decide +kernel
theorem dX12_load_18 : decode cX12_load 18 = .ok (.putfield 73, 3) := by decide +kernel
theorem dX12_load_21 : decode cX12_load 21 = .ok (.iload_n 1, 1) := by decide +kernel
theorem dX12_load_22 : decode cX12_load 22 = .ok (.ifCond .lt 10, 3) := by decide +kernel
theorem dX12_load_32 : decode cX12_load 32 = .ok (.iload_n 1, 1) := by decide +kernel
theorem dX12_load_33 : decode cX12_load 33 = .ok (.ireturn, 1) := by decide +kernel
theorem dX12_keep_0 : decode cX12_keep 0 = .ok (.aload_n 0, 1) := by decide +kernel
theorem dX12_keep_1 : decode cX12_keep 1 = .ok (.iload_n 1, 1) := by decide +kernel
theorem dX12_keep_2 : decode cX12_keep 2 = .ok (.invokevirtual 146, 3) := by decide +kernel
theorem dX12_keep_5 : decode cX12_keep 5 = .ok (.astore_n 2, 1) := by decide +kernel
theorem dX12_keep_6 : decode cX12_keep 6 = .ok (.aload_n 2, 1) := by decide +kernel
theorem dX12_keep_7 : decode cX12_keep 7 = .ok (.ifnonnull 7, 3) := by decide +kernel
theorem dX12_keep_10 : decode cX12_keep 10 = .ok (.iconst (-1), 1) := by decide +kernel
theorem dX12_keep_11 : decode cX12_keep 11 = .ok (.goto 13, 3) := by decide +kernel
theorem dX12_keep_24 : decode cX12_keep 24 = .ok (.istore_n 3, 1) := by decide +kernel
theorem dX12_keep_25 : decode cX12_keep 25 = .ok (.iload_n 3, 1) := by decide +kernel
theorem dX12_keep_26 : decode cX12_keep 26 = .ok (.ifCond .lt 10, 3) := by decide +kernel
theorem dX12_keep_36 : decode cX12_keep 36 = .ok (.iload_n 3, 1) := by decide +kernel
theorem dX12_keep_37 : decode cX12_keep 37 = .ok (.ireturn, 1) := by decide +kernel
theorem dX12_patch_0 : decode cX12_patch 0 = .ok (.aload_n 0, 1) := by decide +kernel
theorem dX12_patch_1 : decode cX12_patch 1 = .ok (.getfield 53, 3) := by decide +kernel
theorem dX12_patch_4 : decode cX12_patch 4 = .ok (.iload_n 1, 1) := by decide +kernel
theorem dX12_patch_5 : decode cX12_patch 5 = .ok (.iload_n 2, 1) := by decide +kernel
theorem dX12_patch_6 : decode cX12_patch 6 = .ok (.iload_n 3, 1) := by decide +kernel
theorem dX12_patch_7 : decode cX12_patch 7 = .ok (.invokevirtual 154, 3) := by decide +kernel
theorem dX12_patch_10 : decode cX12_patch 10 = .ok (.istore 4, 2) := by decide +kernel
theorem dX12_patch_12 : decode cX12_patch 12 = .ok (.iload 4, 2) := by decide +kernel
theorem dX12_patch_14 : decode cX12_patch 14 = .ok (.ifCond .eq 10, 3) := by decide +kernel
theorem dX12_patch_24 : decode cX12_patch 24 = .ok (.iload 4, 2) := by decide +kernel
theorem dX12_patch_26 : decode cX12_patch 26 = .ok (.ireturn, 1) := by decide +kernel
theorem dX12_clear_0 : decode cX12_clear 0 = .ok (.aload_n 0, 1) := by decide +kernel
theorem dX12_clear_1 : decode cX12_clear 1 = .ok (.getfield 53, 3) := by decide +kernel
theorem dX12_clear_4 : decode cX12_clear 4 = .ok (.invokevirtual 158, 3) := by decide +kernel
theorem dX12_clear_7 : decode cX12_clear 7 = .ok (.aload_n 0, 1) := by decide +kernel
theorem dX12_clear_8 : decode cX12_clear 8 = .ok (.getfield 69, 3) := by decide +kernel
theorem dX12_clear_11 : decode cX12_clear 11 = .ok (.invokevirtual 153, 3) := by decide +kernel
theorem dX12_clear_14 : decode cX12_clear 14 = .ok (.return_, 1) := by decide +kernel
theorem dX12_verify_0 : decode cX12_verify 0 = .ok (.aload_n 0, 1) := by decide +kernel
theorem dX12_verify_1 : decode cX12_verify 1 = .ok (.getfield 62, 3) := by decide +kernel
theorem dX12_verify_4 : decode cX12_verify 4 = .ok (.invokevirtual 159, 3) := by decide +kernel
theorem dX12_verify_7 : decode cX12_verify 7 = .ok (.istore_n 1, 1) := by decide +kernel
theorem dX12_verify_8 : decode cX12_verify 8 = .ok (.iload_n 1, 1) := by decide +kernel
theorem dX12_verify_9 : decode cX12_verify 9 = .ok (.ifCond .ne 11, 3) := by decide +kernel
theorem dX12_verify_12 : decode cX12_verify 12 = .ok (.aload_n 0, 1) := by decide +kernel
theorem dX12_verify_13 : decode cX12_verify 13 = .ok (.getfield 62, 3) := by decide +kernel
theorem dX12_verify_16 : decode cX12_verify 16 = .ok (.invokevirtual 162, 3) := by decide +kernel
theorem dX12_verify_19 : decode cX12_verify 19 = .ok (.istore_n 1, 1) := by decide +kernel
theorem dX12_verify_20 : decode cX12_verify 20 = .ok (.aload_n 0, 1) := by decide +kernel
theorem dX12_verify_21 : decode cX12_verify 21 = .ok (.getfield 53, 3) := by decide +kernel
theorem dX12_verify_24 : decode cX12_verify 24 = .ok (.iload_n 1, 1) := by decide +kernel
theorem dX12_verify_25 : decode cX12_verify 25 = .ok (.ifCond .ne 7, 3) := by decide +kernel
theorem dX12_verify_28 : decode cX12_verify 28 = .ok (.iconst 1, 1) := by decide +kernel
theorem dX12_verify_29 : decode cX12_verify 29 = .ok (.goto 4, 3) := by decide +kernel
theorem dX12_verify_33 : decode cX12_verify 33 = .ok (.putfield 165, 3) := by decide +kernel
theorem dX12_verify_36 : decode cX12_verify 36 = .ok (.aload_n 0, 1) := by decide +kernel
theorem dX12_verify_37 : decode cX12_verify 37 = .ok (.getfield 53, 3) := by decide +kernel
theorem dX12_verify_40 : decode cX12_verify 40 = .ok (.getfield 165, 3) := by decide +kernel
theorem dX12_verify_43 : decode cX12_verify 43 = .ok (.ifCond .eq 10, 3) := by decide +kernel
theorem dX12_verify_46 : decode cX12_verify 46 = .ok (.aload_n 0, 1) := by decide +kernel
theorem dX12_verify_47 : decode cX12_verify 47 = .ok (.getfield 53, 3) := by decide +kernel
theorem dX12_verify_50 : decode cX12_verify 50 = .ok (.invokevirtual 169, 3) := by decide +kernel
theorem dX12_verify_53 : decode cX12_verify 53 = .ok (.iload_n 1, 1) := by decide +kernel
theorem dX12_verify_54 : decode cX12_verify 54 = .ok (.ireturn, 1) := by decide +kernel
theorem dX12_where_0 : decode cX12_where 0 = .ok (.iload_n 1, 1) := by decide +kernel
theorem dX12_where_1 : decode cX12_where 1 = .ok (.tableswitch 51 0 2 #[27, 35, 43], 27) := by decide +kernel
theorem dX12_where_28 : decode cX12_where 28 = .ok (.aload_n 0, 1) := by decide +kernel
theorem dX12_where_29 : decode cX12_where 29 = .ok (.getfield 62, 3) := by decide +kernel
theorem dX12_where_32 : decode cX12_where 32 = .ok (.getfield 172, 3) := by decide +kernel
theorem dX12_where_35 : decode cX12_where 35 = .ok (.ireturn, 1) := by decide +kernel
theorem dX12_where_36 : decode cX12_where 36 = .ok (.aload_n 0, 1) := by decide +kernel
theorem dX12_where_37 : decode cX12_where 37 = .ok (.getfield 62, 3) := by decide +kernel
theorem dX12_where_40 : decode cX12_where 40 = .ok (.getfield 175, 3) := by decide +kernel
theorem dX12_where_43 : decode cX12_where 43 = .ok (.ireturn, 1) := by decide +kernel
theorem dX12_where_44 : decode cX12_where 44 = .ok (.aload_n 0, 1) := by decide +kernel
theorem dX12_where_45 : decode cX12_where 45 = .ok (.getfield 62, 3) := by decide +kernel
theorem dX12_where_48 : decode cX12_where 48 = .ok (.getfield 178, 3) := by decide +kernel
theorem dX12_where_51 : decode cX12_where 51 = .ok (.ireturn, 1) := by decide +kernel
theorem dX12_where_52 : decode cX12_where 52 = .ok (.iconst (-1), 1) := by decide +kernel
theorem dX12_where_53 : decode cX12_where 53 = .ok (.ireturn, 1) := by decide +kernel
theorem dX12_start_0 : decode cX12_start 0 = .ok (.aload_n 0, 1) := by decide +kernel
theorem dX12_start_1 : decode cX12_start 1 = .ok (.getfield 53, 3) := by decide +kernel
theorem dX12_start_4 : decode cX12_start 4 = .ok (.iload_n 1, 1) := by decide +kernel
theorem dX12_start_5 : decode cX12_start 5 = .ok (.invokevirtual 181, 3) := by decide +kernel
theorem dX12_start_8 : decode cX12_start 8 = .ok (.astore_n 3, 1) := by decide +kernel
theorem dX12_start_9 : decode cX12_start 9 = .ok (.aload_n 0, 1) := by decide +kernel
theorem dX12_start_10 : decode cX12_start 10 = .ok (.getfield 53, 3) := by decide +kernel
theorem dX12_start_13 : decode cX12_start 13 = .ok (.getfield 165, 3) := by decide +kernel
theorem dX12_start_16 : decode cX12_start 16 = .ok (.ifCond .eq 19, 3) := by decide +kernel
theorem dX12_start_35 : decode cX12_start 35 = .ok (.iconst 0, 1) := by decide +kernel
theorem dX12_start_36 : decode cX12_start 36 = .ok (.ireturn, 1) := by decide +kernel
theorem dX12_run_0 : decode cX12_run 0 = .ok (.iload_n 1, 1) := by decide +kernel
theorem dX12_run_1 : decode cX12_run 1 = .ok (.iconst 1, 1) := by decide +kernel
theorem dX12_run_2 : decode cX12_run 2 = .ok (.if_icmp .lt 10, 3) := by decide +kernel
theorem dX12_run_5 : decode cX12_run 5 = .ok (.iload_n 1, 1) := by decide +kernel
theorem dX12_run_6 : decode cX12_run 6 = .ok (.sipush 20000, 3) := by decide +kernel
theorem dX12_run_9 : decode cX12_run 9 = .ok (.if_icmp .le 7, 3) := by decide +kernel
theorem dX12_run_12 : decode cX12_run 12 = .ok (.iconst (-1), 1) := by decide +kernel
theorem dX12_run_13 : decode cX12_run 13 = .ok (.goto 11, 3) := by decide +kernel
theorem dX12_run_16 : decode cX12_run 16 = .ok (.aload_n 0, 1) := by decide +kernel
theorem dX12_run_17 : decode cX12_run 17 = .ok (.getfield 69, 3) := by decide +kernel
theorem dX12_run_20 : decode cX12_run 20 = .ok (.iload_n 1, 1) := by decide +kernel
theorem dX12_run_21 : decode cX12_run 21 = .ok (.invokevirtual 196, 3) := by decide +kernel
theorem dX12_run_24 : decode cX12_run 24 = .ok (.ireturn, 1) := by decide +kernel
theorem dX12_look_0 : decode cX12_look 0 = .ok (.iload_n 1, 1) := by decide +kernel
theorem dX12_look_1 : decode cX12_look 1 = .ok (.tableswitch 56 11 13 #[27, 35, 51], 27) := by decide +kernel
theorem dX12_look_28 : decode cX12_look 28 = .ok (.aload_n 0, 1) := by decide +kernel
theorem dX12_look_29 : decode cX12_look 29 = .ok (.getfield 53, 3) := by decide +kernel
theorem dX12_look_32 : decode cX12_look 32 = .ok (.getfield 199, 3) := by decide +kernel
theorem dX12_look_35 : decode cX12_look 35 = .ok (.ireturn, 1) := by decide +kernel
theorem dX12_look_36 : decode cX12_look 36 = .ok (.aload_n 0, 1) := by decide +kernel
theorem dX12_look_37 : decode cX12_look 37 = .ok (.getfield 53, 3) := by decide +kernel
theorem dX12_look_40 : decode cX12_look 40 = .ok (.getfield 165, 3) := by decide +kernel
theorem dX12_look_43 : decode cX12_look 43 = .ok (.ifCond .eq 7, 3) := by decide +kernel
theorem dX12_look_50 : decode cX12_look 50 = .ok (.iconst 0, 1) := by decide +kernel
theorem dX12_look_51 : decode cX12_look 51 = .ok (.ireturn, 1) := by decide +kernel
theorem dX12_look_52 : decode cX12_look 52 = .ok (.aload_n 0, 1) := by decide +kernel
theorem dX12_look_53 : decode cX12_look 53 = .ok (.getfield 73, 3) := by decide +kernel
theorem dX12_look_56 : decode cX12_look 56 = .ok (.ireturn, 1) := by decide +kernel
theorem dX12_look_57 : decode cX12_look 57 = .ok (.iload_n 1, 1) := by decide +kernel
theorem dX12_look_58 : decode cX12_look 58 = .ok (.bipush 7, 2) := by decide +kernel
theorem dX12_look_60 : decode cX12_look 60 = .ok (.if_icmp .lt 20, 3) := by decide +kernel
theorem dX12_look_63 : decode cX12_look 63 = .ok (.iload_n 1, 1) := by decide +kernel
theorem dX12_look_64 : decode cX12_look 64 = .ok (.bipush 10, 2) := by decide +kernel
theorem dX12_look_66 : decode cX12_look 66 = .ok (.if_icmp .gt 14, 3) := by decide +kernel
theorem dX12_look_69 : decode cX12_look 69 = .ok (.aload_n 0, 1) := by decide +kernel
theorem dX12_look_70 : decode cX12_look 70 = .ok (.getfield 69, 3) := by decide +kernel
theorem dX12_look_73 : decode cX12_look 73 = .ok (.iload_n 1, 1) := by decide +kernel
theorem dX12_look_74 : decode cX12_look 74 = .ok (.invokevirtual 202, 3) := by decide +kernel
theorem dX12_look_77 : decode cX12_look 77 = .ok (.goto 11, 3) := by decide +kernel
theorem dX12_look_80 : decode cX12_look 80 = .ok (.aload_n 0, 1) := by decide +kernel
theorem dX12_look_81 : decode cX12_look 81 = .ok (.getfield 69, 3) := by decide +kernel
theorem dX12_look_84 : decode cX12_look 84 = .ok (.iload_n 1, 1) := by decide +kernel
theorem dX12_look_85 : decode cX12_look 85 = .ok (.invokevirtual 205, 3) := by decide +kernel
theorem dX12_look_88 : decode cX12_look 88 = .ok (.ireturn, 1) := by decide +kernel
theorem dX12_out_0 : decode cX12_out 0 = .ok (.aload_n 0, 1) := by decide +kernel
theorem dX12_out_1 : decode cX12_out 1 = .ok (.getfield 69, 3) := by decide +kernel
theorem dX12_out_4 : decode cX12_out 4 = .ok (.iload_n 1, 1) := by decide +kernel
theorem dX12_out_5 : decode cX12_out 5 = .ok (.invokevirtual 208, 3) := by decide +kernel
theorem dX12_out_8 : decode cX12_out 8 = .ok (.ireturn, 1) := by decide +kernel
theorem dX12_type_0 : decode cX12_type 0 = .ok (.iload_n 1, 1) := by decide +kernel
theorem dX12_type_1 : decode cX12_type 1 = .ok (.ifCond .lt 17, 3) := by decide +kernel
theorem dX12_type_4 : decode cX12_type 4 = .ok (.iload_n 1, 1) := by decide +kernel
theorem dX12_type_5 : decode cX12_type 5 = .ok (.bipush 8, 2) := by decide +kernel
theorem dX12_type_7 : decode cX12_type 7 = .ok (.aload_n 0, 1) := by decide +kernel
theorem dX12_type_8 : decode cX12_type 8 = .ok (.getfield 53, 3) := by decide +kernel
theorem dX12_type_11 : decode cX12_type 11 = .ok (.getfield 199, 3) := by decide +kernel
theorem dX12_type_14 : decode cX12_type 14 = .ok (.iadd, 1) := by decide +kernel
theorem dX12_type_15 : decode cX12_type 15 = .ok (.if_icmp .lt 5, 3) := by decide +kernel
theorem dX12_type_18 : decode cX12_type 18 = .ok (.iconst (-1), 1) := by decide +kernel
theorem dX12_type_19 : decode cX12_type 19 = .ok (.ireturn, 1) := by decide +kernel
theorem dX12_type_20 : decode cX12_type 20 = .ok (.iload_n 2, 1) := by decide +kernel
theorem dX12_type_21 : decode cX12_type 21 = .ok (.ifCond .ne 15, 3) := by decide +kernel
theorem dX12_type_24 : decode cX12_type 24 = .ok (.aload_n 0, 1) := by decide +kernel
theorem dX12_type_25 : decode cX12_type 25 = .ok (.getfield 53, 3) := by decide +kernel
theorem dX12_type_28 : decode cX12_type 28 = .ok (.getfield 213, 3) := by decide +kernel
theorem dX12_type_31 : decode cX12_type 31 = .ok (.iload_n 1, 1) := by decide +kernel
theorem dX12_type_32 : decode cX12_type 32 = .ok (.invokevirtual 217, 3) := by decide +kernel
theorem dX12_type_35 : decode cX12_type 35 = .ok (.ireturn, 1) := by decide +kernel
theorem dX12_type_36 : decode cX12_type 36 = .ok (.aload_n 0, 1) := by decide +kernel
theorem dX12_type_37 : decode cX12_type 37 = .ok (.getfield 53, 3) := by decide +kernel
theorem dX12_type_40 : decode cX12_type 40 = .ok (.iload_n 1, 1) := by decide +kernel
theorem dX12_type_41 : decode cX12_type 41 = .ok (.invokevirtual 181, 3) := by decide +kernel
theorem dX12_type_44 : decode cX12_type 44 = .ok (.astore_n 3, 1) := by decide +kernel
theorem dX12_type_45 : decode cX12_type 45 = .ok (.aload_n 3, 1) := by decide +kernel
theorem dX12_type_46 : decode cX12_type 46 = .ok (.ifnonnull 19, 3) := by decide +kernel
theorem dX12_type_49 : decode cX12_type 49 = .ok (.iload_n 2, 1) := by decide +kernel
theorem dX12_type_50 : decode cX12_type 50 = .ok (.iconst 1, 1) := by decide +kernel
theorem dX12_type_51 : decode cX12_type 51 = .ok (.if_icmp .lt 12, 3) := by decide +kernel
theorem dX12_type_54 : decode cX12_type 54 = .ok (.iload_n 2, 1) := by decide +kernel
theorem dX12_type_55 : decode cX12_type 55 = .ok (.iconst 4, 1) := by decide +kernel
theorem dX12_type_56 : decode cX12_type 56 = .ok (.if_icmp .gt 7, 3) := by decide +kernel
theorem dX12_type_59 : decode cX12_type 59 = .ok (.iconst 0, 1) := by decide +kernel
theorem dX12_type_60 : decode cX12_type 60 = .ok (.goto 4, 3) := by decide +kernel
theorem dX12_type_63 : decode cX12_type 63 = .ok (.iconst (-1), 1) := by decide +kernel
theorem dX12_type_64 : decode cX12_type 64 = .ok (.ireturn, 1) := by decide +kernel
def VS_k1_p0 : List Cond := [Cond.fieldLink RX12 73 "ClassMill" "taped" "I", Cond.fieldLink RX12 9 "ClassMill" "tape" "[B", Cond.code yX12_putNumber cX12_putNumber 3 none, Cond.methodLink RX12 77 yX12_putNumber, Cond.instanceMethod yX12_putNumber, Cond.selects RX12 yX12_putNumber yX12_putNumber, Cond.initialized RX12, Cond.fieldLink RX12 16 "ClassMill" "text" "LClassMill$Text;", Cond.fieldLink RX12 113 "ClassMill$Text" "fault" "I", Cond.fieldLink RX12 136 "ClassMill" "imageCount" "I", Cond.code yX12_imageOf cX12_imageOf 2 (some (.array .byte)), Cond.methodLink RX12 146 yX12_imageOf, Cond.instanceMethod yX12_imageOf, Cond.selects RX12 yX12_imageOf yX12_imageOf, Cond.fieldLink RX7 41 "ClassMill$Space" "count" "I", Cond.code yX7_imageOf cX7_imageOf 2 (some (.object "ClassMill$Image")), Cond.methodLink RX7 90 yX7_imageOf, Cond.instanceMethod yX7_imageOf, Cond.selects RX7 yX7_imageOf yX7_imageOf, Cond.initialized RX7, Cond.code yX7_change cX7_change 7 (some .boolean), Cond.methodLink RX12 154 yX7_change, Cond.instanceMethod yX7_change, Cond.selects RX7 yX7_change yX7_change, Cond.fieldLink RX12 53 "ClassMill" "space" "LClassMill$Space;", Cond.fieldLink RX12 62 "ClassMill" "verifier" "LClassMill$Verifier;", Cond.fieldLink RX12 172 "ClassMill$Verifier" "toldClass" "I", Cond.fieldLink RX12 175 "ClassMill$Verifier" "toldMethod" "I", Cond.fieldLink RX12 178 "ClassMill$Verifier" "toldPlace" "I", Cond.methodLink RX12 181 yX7_imageOf, Cond.fieldLink RX12 165 "ClassMill$Space" "verified" "Z", Cond.fieldLink RX5 57 "ClassMill$Machine" "steps" "I", Cond.fieldLink RX5 54 "ClassMill$Machine" "state" "I", Cond.code yX5_go cX5_go 3 (some .int), Cond.methodLink RX12 196 yX5_go, Cond.instanceMethod yX5_go, Cond.selects RX5 yX5_go yX5_go, Cond.initialized RX5, Cond.fieldLink RX12 69 "ClassMill" "machine" "LClassMill$Machine;", Cond.fieldLink RX5 50 "ClassMill$Machine" "gave" "I"]
def VS_k1_p1 : List Cond := [Cond.fieldLink RX5 60 "ClassMill$Machine" "objects" "I", Cond.fieldLink RX5 63 "ClassMill$Machine" "cells" "I", Cond.fieldLink RX5 66 "ClassMill$Machine" "depth" "I", Cond.fieldLink RX5 69 "ClassMill$Machine" "prints" "I", Cond.code yX5_printedAt cX5_printedAt 2 (some .int), Cond.methodLink RX12 208 yX5_printedAt, Cond.instanceMethod yX5_printedAt, Cond.selects RX5 yX5_printedAt yX5_printedAt, Cond.code yX5_tell cX5_tell 2 (some .int), Cond.methodLink RX12 205 yX5_tell, Cond.instanceMethod yX5_tell, Cond.selects RX5 yX5_tell yX5_tell, Cond.code yX5_tellTop cX5_tellTop 2 (some .int), Cond.methodLink RX12 202 yX5_tellTop, Cond.instanceMethod yX5_tellTop, Cond.selects RX5 yX5_tellTop yX5_tellTop, Cond.fieldLink RX12 199 "ClassMill$Space" "count" "I", Cond.code yX4_isClass cX4_isClass 1 (some .boolean), Cond.methodLink RX4 31 yX4_isClass, Cond.static yX4_isClass, Cond.initialized RX4, Cond.fieldLink RX4 11 "ClassMill$Kin" "above" "[I", Cond.code yX4_above cX4_above 2 (some .int), Cond.methodLink RX12 217 yX4_above, Cond.instanceMethod yX4_above, Cond.selects RX4 yX4_above yX4_above, Cond.fieldLink RX12 213 "ClassMill$Space" "kin" "LClassMill$Kin;", Cond.methodLink RX7 49 yX4_forget, Cond.instanceMethod yX4_forget, Cond.selects RX4 yX4_forget yX4_forget, Cond.fieldLink RX7 45 "ClassMill$Space" "verified" "Z", Cond.fieldLink RX7 16 "ClassMill$Space" "kin" "LClassMill$Kin;", Cond.code yX7_forget cX7_forget 1 none, Cond.methodLink RX12 158 yX7_forget, Cond.instanceMethod yX7_forget, Cond.selects RX7 yX7_forget yX7_forget, Cond.code yX5_forget cX5_forget 1 none, Cond.methodLink RX12 153 yX5_forget, Cond.instanceMethod yX5_forget, Cond.selects RX5 yX5_forget yX5_forget]
def VS_k1_p2 : List Cond := [Cond.fieldLink RX11 50 "ClassMill$Verifier" "space" "LClassMill$Space;", Cond.fieldLink RX11 68 "ClassMill$Space" "count" "I", Cond.code yX7_cellsAbove cX7_cellsAbove 6 (some .int), Cond.methodLink RX7 147 yX7_cellsAbove, Cond.instanceMethod yX7_cellsAbove, Cond.selects RX7 yX7_cellsAbove yX7_cellsAbove, Cond.fieldLink RX7 35 "ClassMill$Space" "cells" "[I", Cond.code yX11_proveHeads cX11_proveHeads 3 (some .int), Cond.methodLink RX12 159 yX11_proveHeads, Cond.instanceMethod yX11_proveHeads, Cond.selects RX11 yX11_proveHeads yX11_proveHeads, Cond.initialized RX11, Cond.code yX11_proveMethods cX11_proveMethods 4 (some .int), Cond.methodLink RX12 162 yX11_proveMethods, Cond.instanceMethod yX11_proveMethods, Cond.selects RX11 yX11_proveMethods yX11_proveMethods, Cond.code yX7_linkAll cX7_linkAll 3 none, Cond.methodLink RX12 169 yX7_linkAll, Cond.instanceMethod yX7_linkAll, Cond.selects RX7 yX7_linkAll yX7_linkAll, Cond.fieldLink RX3 43 "ClassMill$Image" "pos" "I", Cond.fieldLink RX3 39 "ClassMill$Image" "size" "I", Cond.fieldLink RX3 46 "ClassMill$Image" "form" "I", Cond.code yX3_next cX3_next 1 (some .int), Cond.methodLink RX3 87 yX3_next, Cond.instanceMethod yX3_next, Cond.selects RX3 yX3_next yX3_next, Cond.initialized RX3, Cond.code yX3_bad cX3_bad 2 none, Cond.methodLink RX3 78 yX3_bad, Cond.instanceMethod yX3_bad, Cond.selects RX3 yX3_bad yX3_bad, Cond.code yX3_nextUpTo cX3_nextUpTo 4 (some .int), Cond.methodLink RX3 71 yX3_nextUpTo, Cond.instanceMethod yX3_nextUpTo, Cond.selects RX3 yX3_nextUpTo yX3_nextUpTo, Cond.fieldLink RX3 90 "ClassMill$Image" "constants" "I", Cond.code yX3_readConstants cX3_readConstants 2 none, Cond.methodLink RX3 55 yX3_readConstants, Cond.instanceMethod yX3_readConstants]
def VS_k1_p3 : List Cond := [Cond.selects RX3 yX3_readConstants yX3_readConstants, Cond.code yX3_partOf cX3_partOf 3 (some .int), Cond.methodLink RX3 99 yX3_partOf, Cond.instanceMethod yX3_partOf, Cond.selects RX3 yX3_partOf yX3_partOf, Cond.code yX3_tagOf cX3_tagOf 2 (some .int), Cond.methodLink RX3 112 yX3_tagOf, Cond.instanceMethod yX3_tagOf, Cond.selects RX3 yX3_tagOf yX3_tagOf, Cond.code yX3_nextPlainClass cX3_nextPlainClass 3 (some .int), Cond.methodLink RX3 58 yX3_nextPlainClass, Cond.instanceMethod yX3_nextPlainClass, Cond.selects RX3 yX3_nextPlainClass yX3_nextPlainClass, Cond.code yX3_readFields cX3_readFields 4 none, Cond.methodLink RX3 68 yX3_readFields, Cond.instanceMethod yX3_readFields, Cond.selects RX3 yX3_readFields yX3_readFields, Cond.fieldLink RX3 9 "ClassMill$Image" "bytes" "[B", Cond.methodLink RX3 33 yJ9_min_7cf53, Cond.static yJ9_min_7cf53, Cond.initialized "java/lang/Math", Cond.code yJ9_min_7cf53 cJ9_min_7cf53 2 (some .int), Cond.fieldLink RX3 49 "ClassMill$Image" "fields" "I", Cond.fieldLink RX3 52 "ClassMill$Image" "methods" "I", Cond.fieldLink RX3 62 "ClassMill$Image" "selfText" "I", Cond.fieldLink RX3 65 "ClassMill$Image" "aboveText" "I", Cond.code yX3_read cX3_read 5 (some .int), Cond.methodLink RX7 52 yX3_read, Cond.instanceMethod yX3_read, Cond.selects RX3 yX3_read yX3_read, Cond.fieldLink RX7 27 "ClassMill$Space" "spare" "LClassMill$Image;", Cond.code yX7_bring cX7_bring 5 (some .int), Cond.methodLink RX12 149 yX7_bring, Cond.instanceMethod yX7_bring, Cond.selects RX7 yX7_bring yX7_bring, Cond.fieldLink RX9 83 "ClassMill$Text" "count" "I", Cond.fieldLink RX9 15 "ClassMill$Text" "kinds" "[I", Cond.fieldLink RX9 19 "ClassMill$Text" "places" "[I", Cond.fieldLink RX9 22 "ClassMill$Text" "values" "[I", Cond.code yX9_behindBlanks cX9_behindBlanks 6 (some .int)]
def VS_k1_p4 : List Cond := [Cond.methodLink RX9 93 yX9_behindBlanks, Cond.static yX9_behindBlanks, Cond.initialized RX9, Cond.code yX9_addToken cX9_addToken 4 none, Cond.methodLink RX9 99 yX9_addToken, Cond.instanceMethod yX9_addToken, Cond.selects RX9 yX9_addToken yX9_addToken, Cond.fieldLink RX9 73 "ClassMill$Text" "names" "I", Cond.fieldLink RX9 38 "ClassMill$Text" "knownBucket" "[I", Cond.fieldLink RX9 35 "ClassMill$Text" "bucket" "[I", Cond.methodLink RX9 67 arraycopyName, Cond.native arraycopyName, Cond.static arraycopyName, Cond.initialized "java/lang/System", Cond.fieldLink RX9 86 "ClassMill$Text" "pos" "I", Cond.fieldLink RX9 80 "ClassMill$Text" "fault" "I", Cond.fieldLink RX9 41 "ClassMill$Text" "place" "I", Cond.methodLink RX2 82 yJ7_fill_53178, Cond.static yJ7_fill_53178, Cond.initialized RJ7, Cond.methodLink RX2 88 yX4_forget, Cond.fieldLink RX2 78 "ClassMill$Heads" "classes" "I", Cond.fieldLink RX2 27 "ClassMill$Heads" "fields" "[I", Cond.fieldLink RX2 39 "ClassMill$Heads" "methods" "[I", Cond.fieldLink RX2 14 "ClassMill$Heads" "kin" "LClassMill$Kin;", Cond.code yX9_kind cX9_kind 1 (some .int), Cond.methodLink RX8 23 yX9_kind, Cond.instanceMethod yX9_kind, Cond.selects RX9 yX9_kind yX9_kind, Cond.code yX9_tellHere cX9_tellHere 2 none, Cond.methodLink RX8 33 yX9_tellHere, Cond.instanceMethod yX9_tellHere, Cond.selects RX9 yX9_tellHere yX9_tellHere, Cond.fieldLink RX8 7 "ClassMill$Syntax" "text" "LClassMill$Text;", Cond.fieldLink RX2 20 "ClassMill$Heads" "classAt" "[I", Cond.code yX8_need cX8_need 2 none, Cond.methodLink RX8 37 yX8_need, Cond.instanceMethod yX8_need, Cond.selects RX8 yX8_need yX8_need, Cond.initialized RX8]
def VS_k1_p5 : List Cond := [Cond.code yX2_addClass cX2_addClass 2 none, Cond.methodLink RX8 40 yX2_addClass, Cond.instanceMethod yX2_addClass, Cond.selects RX2 yX2_addClass yX2_addClass, Cond.initialized RX2, Cond.code yX8_accept cX8_accept 2 (some .boolean), Cond.methodLink RX8 45 yX8_accept, Cond.instanceMethod yX8_accept, Cond.selects RX8 yX8_accept yX8_accept, Cond.fieldLink RX8 13 "ClassMill$Syntax" "heads" "LClassMill$Heads;", Cond.fieldLink RX8 30 "ClassMill$Text" "pos" "I", Cond.fieldLink RX8 19 "ClassMill$Text" "fault" "I", Cond.code yX8_readClass cX8_readClass 2 none, Cond.methodLink RX8 27 yX8_readClass, Cond.instanceMethod yX8_readClass, Cond.selects RX8 yX8_readClass yX8_readClass, Cond.fieldLink RX2 74 "ClassMill$Heads" "text" "LClassMill$Text;", Cond.fieldLink RX2 91 "ClassMill$Text" "fault" "I", Cond.fieldLink RX2 42 "ClassMill$Heads" "methodAt" "[I", Cond.fieldLink RX2 30 "ClassMill$Heads" "fieldName" "[I", Cond.fieldLink RX0 65 "ClassMill$Bodies" "muchAt" "I", Cond.code yX9_scan cX9_scan 6 none, Cond.methodLink RX12 85 yX9_scan, Cond.instanceMethod yX9_scan, Cond.selects RX9 yX9_scan yX9_scan, Cond.code yX2_forget cX2_forget 1 none, Cond.methodLink RX12 89 yX2_forget, Cond.instanceMethod yX2_forget, Cond.selects RX2 yX2_forget yX2_forget, Cond.code yX8_readProgram cX8_readProgram 2 none, Cond.methodLink RX12 92 yX8_readProgram, Cond.instanceMethod yX8_readProgram, Cond.selects RX8 yX8_readProgram yX8_readProgram, Cond.code yX2_readClasses cX2_readClasses 2 none, Cond.methodLink RX12 95 yX2_readClasses, Cond.instanceMethod yX2_readClasses, Cond.selects RX2 yX2_readClasses yX2_readClasses, Cond.code yX2_readMembers cX2_readMembers 4 none, Cond.methodLink RX12 98 yX2_readMembers, Cond.instanceMethod yX2_readMembers]
def VS_k1_p6 : List Cond := [Cond.selects RX2 yX2_readMembers yX2_readMembers, Cond.code yX2_checkOverrides cX2_checkOverrides 2 none, Cond.methodLink RX12 101 yX2_checkOverrides, Cond.instanceMethod yX2_checkOverrides, Cond.selects RX2 yX2_checkOverrides yX2_checkOverrides, Cond.code yX2_nameKinds cX2_nameKinds 2 none, Cond.methodLink RX12 104 yX2_nameKinds, Cond.instanceMethod yX2_nameKinds, Cond.selects RX2 yX2_nameKinds yX2_nameKinds, Cond.code yX0_beginProgram cX0_beginProgram 1 none, Cond.methodLink RX12 107 yX0_beginProgram, Cond.instanceMethod yX0_beginProgram, Cond.selects RX0 yX0_beginProgram yX0_beginProgram, Cond.initialized RX0, Cond.code yX0_closeProgram cX0_closeProgram 1 none, Cond.methodLink RX12 129 yX0_closeProgram, Cond.instanceMethod yX0_closeProgram, Cond.selects RX0 yX0_closeProgram yX0_closeProgram, Cond.fieldLink RX12 25 "ClassMill" "heads" "LClassMill$Heads;", Cond.fieldLink RX12 34 "ClassMill" "syntax" "LClassMill$Syntax;", Cond.fieldLink RX12 41 "ClassMill" "bodies" "LClassMill$Bodies;", Cond.fieldLink RX12 110 "ClassMill$Heads" "classes" "I"]
def VS_k1 : List Cond := VS_k1_p0 ++ (VS_k1_p1 ++ (VS_k1_p2 ++ (VS_k1_p3 ++ (VS_k1_p4 ++ (VS_k1_p5 ++ (VS_k1_p6 ++ (wsX120 ++ (wsX90 ++ (wsX70 ++ (wsX110 ++ (wsX50 ++ (wsX40 ++ (wsX4_forget ++ (wsX30 ++ (wsX20 ++ (wsJ7_fill_53178 ++ (wsX80 ++ (wsX00))))))))))))))))))
theorem mw_k1_0 : Cond.fieldLink RX12 73 "ClassMill" "taped" "I" ∈ VS_k1 := List.mem_append_left _ (List.mem_of_getElem? (i := 0) rfl)
theorem mw_k1_1 : Cond.fieldLink RX12 9 "ClassMill" "tape" "[B" ∈ VS_k1 := List.mem_append_left _ (List.mem_of_getElem? (i := 1) rfl)
theorem mw_k1_2 : Cond.code yX12_putNumber cX12_putNumber 3 none ∈ VS_k1 := List.mem_append_left _ (List.mem_of_getElem? (i := 2) rfl)
theorem mw_k1_3 : Cond.methodLink RX12 77 yX12_putNumber ∈ VS_k1 := List.mem_append_left _ (List.mem_of_getElem? (i := 3) rfl)
theorem mw_k1_4 : Cond.instanceMethod yX12_putNumber ∈ VS_k1 := List.mem_append_left _ (List.mem_of_getElem? (i := 4) rfl)
theorem mw_k1_5 : Cond.selects RX12 yX12_putNumber yX12_putNumber ∈ VS_k1 := List.mem_append_left _ (List.mem_of_getElem? (i := 5) rfl)
theorem mw_k1_6 : Cond.initialized RX12 ∈ VS_k1 := List.mem_append_left _ (List.mem_of_getElem? (i := 6) rfl)
theorem mw_k1_7 : Cond.fieldLink RX12 16 "ClassMill" "text" "LClassMill$Text;" ∈ VS_k1 := List.mem_append_left _ (List.mem_of_getElem? (i := 7) rfl)
theorem mw_k1_8 : Cond.fieldLink RX12 113 "ClassMill$Text" "fault" "I" ∈ VS_k1 := List.mem_append_left _ (List.mem_of_getElem? (i := 8) rfl)
theorem mw_k1_9 : Cond.fieldLink RX12 136 "ClassMill" "imageCount" "I" ∈ VS_k1 := List.mem_append_left _ (List.mem_of_getElem? (i := 9) rfl)
theorem mw_k1_10 : Cond.code yX12_imageOf cX12_imageOf 2 (some (.array .byte)) ∈ VS_k1 := List.mem_append_left _ (List.mem_of_getElem? (i := 10) rfl)
theorem mw_k1_11 : Cond.methodLink RX12 146 yX12_imageOf ∈ VS_k1 := List.mem_append_left _ (List.mem_of_getElem? (i := 11) rfl)
theorem mw_k1_12 : Cond.instanceMethod yX12_imageOf ∈ VS_k1 := List.mem_append_left _ (List.mem_of_getElem? (i := 12) rfl)
theorem mw_k1_13 : Cond.selects RX12 yX12_imageOf yX12_imageOf ∈ VS_k1 := List.mem_append_left _ (List.mem_of_getElem? (i := 13) rfl)
theorem mw_k1_14 : Cond.fieldLink RX7 41 "ClassMill$Space" "count" "I" ∈ VS_k1 := List.mem_append_left _ (List.mem_of_getElem? (i := 14) rfl)
theorem mw_k1_15 : Cond.code yX7_imageOf cX7_imageOf 2 (some (.object "ClassMill$Image")) ∈ VS_k1 := List.mem_append_left _ (List.mem_of_getElem? (i := 15) rfl)
theorem mw_k1_16 : Cond.methodLink RX7 90 yX7_imageOf ∈ VS_k1 := List.mem_append_left _ (List.mem_of_getElem? (i := 16) rfl)
theorem mw_k1_17 : Cond.instanceMethod yX7_imageOf ∈ VS_k1 := List.mem_append_left _ (List.mem_of_getElem? (i := 17) rfl)
theorem mw_k1_18 : Cond.selects RX7 yX7_imageOf yX7_imageOf ∈ VS_k1 := List.mem_append_left _ (List.mem_of_getElem? (i := 18) rfl)
theorem mw_k1_19 : Cond.initialized RX7 ∈ VS_k1 := List.mem_append_left _ (List.mem_of_getElem? (i := 19) rfl)
theorem mw_k1_20 : Cond.code yX7_change cX7_change 7 (some .boolean) ∈ VS_k1 := List.mem_append_left _ (List.mem_of_getElem? (i := 20) rfl)
theorem mw_k1_21 : Cond.methodLink RX12 154 yX7_change ∈ VS_k1 := List.mem_append_left _ (List.mem_of_getElem? (i := 21) rfl)
theorem mw_k1_22 : Cond.instanceMethod yX7_change ∈ VS_k1 := List.mem_append_left _ (List.mem_of_getElem? (i := 22) rfl)
theorem mw_k1_23 : Cond.selects RX7 yX7_change yX7_change ∈ VS_k1 := List.mem_append_left _ (List.mem_of_getElem? (i := 23) rfl)
theorem mw_k1_24 : Cond.fieldLink RX12 53 "ClassMill" "space" "LClassMill$Space;" ∈ VS_k1 := List.mem_append_left _ (List.mem_of_getElem? (i := 24) rfl)
theorem mw_k1_25 : Cond.fieldLink RX12 62 "ClassMill" "verifier" "LClassMill$Verifier;" ∈ VS_k1 := List.mem_append_left _ (List.mem_of_getElem? (i := 25) rfl)
theorem mw_k1_26 : Cond.fieldLink RX12 172 "ClassMill$Verifier" "toldClass" "I" ∈ VS_k1 := List.mem_append_left _ (List.mem_of_getElem? (i := 26) rfl)
theorem mw_k1_27 : Cond.fieldLink RX12 175 "ClassMill$Verifier" "toldMethod" "I" ∈ VS_k1 := List.mem_append_left _ (List.mem_of_getElem? (i := 27) rfl)
theorem mw_k1_28 : Cond.fieldLink RX12 178 "ClassMill$Verifier" "toldPlace" "I" ∈ VS_k1 := List.mem_append_left _ (List.mem_of_getElem? (i := 28) rfl)
theorem mw_k1_29 : Cond.methodLink RX12 181 yX7_imageOf ∈ VS_k1 := List.mem_append_left _ (List.mem_of_getElem? (i := 29) rfl)
theorem mw_k1_30 : Cond.fieldLink RX12 165 "ClassMill$Space" "verified" "Z" ∈ VS_k1 := List.mem_append_left _ (List.mem_of_getElem? (i := 30) rfl)
theorem mw_k1_31 : Cond.fieldLink RX5 57 "ClassMill$Machine" "steps" "I" ∈ VS_k1 := List.mem_append_left _ (List.mem_of_getElem? (i := 31) rfl)
theorem mw_k1_32 : Cond.fieldLink RX5 54 "ClassMill$Machine" "state" "I" ∈ VS_k1 := List.mem_append_left _ (List.mem_of_getElem? (i := 32) rfl)
theorem mw_k1_33 : Cond.code yX5_go cX5_go 3 (some .int) ∈ VS_k1 := List.mem_append_left _ (List.mem_of_getElem? (i := 33) rfl)
theorem mw_k1_34 : Cond.methodLink RX12 196 yX5_go ∈ VS_k1 := List.mem_append_left _ (List.mem_of_getElem? (i := 34) rfl)
theorem mw_k1_35 : Cond.instanceMethod yX5_go ∈ VS_k1 := List.mem_append_left _ (List.mem_of_getElem? (i := 35) rfl)
theorem mw_k1_36 : Cond.selects RX5 yX5_go yX5_go ∈ VS_k1 := List.mem_append_left _ (List.mem_of_getElem? (i := 36) rfl)
theorem mw_k1_37 : Cond.initialized RX5 ∈ VS_k1 := List.mem_append_left _ (List.mem_of_getElem? (i := 37) rfl)
theorem mw_k1_38 : Cond.fieldLink RX12 69 "ClassMill" "machine" "LClassMill$Machine;" ∈ VS_k1 := List.mem_append_left _ (List.mem_of_getElem? (i := 38) rfl)
theorem mw_k1_39 : Cond.fieldLink RX5 50 "ClassMill$Machine" "gave" "I" ∈ VS_k1 := List.mem_append_left _ (List.mem_of_getElem? (i := 39) rfl)
theorem mw_k1_40 : Cond.fieldLink RX5 60 "ClassMill$Machine" "objects" "I" ∈ VS_k1 := List.mem_append_right _ (List.mem_append_left _ (List.mem_of_getElem? (i := 0) rfl))
theorem mw_k1_41 : Cond.fieldLink RX5 63 "ClassMill$Machine" "cells" "I" ∈ VS_k1 := List.mem_append_right _ (List.mem_append_left _ (List.mem_of_getElem? (i := 1) rfl))
theorem mw_k1_42 : Cond.fieldLink RX5 66 "ClassMill$Machine" "depth" "I" ∈ VS_k1 := List.mem_append_right _ (List.mem_append_left _ (List.mem_of_getElem? (i := 2) rfl))
theorem mw_k1_43 : Cond.fieldLink RX5 69 "ClassMill$Machine" "prints" "I" ∈ VS_k1 := List.mem_append_right _ (List.mem_append_left _ (List.mem_of_getElem? (i := 3) rfl))
theorem mw_k1_44 : Cond.code yX5_printedAt cX5_printedAt 2 (some .int) ∈ VS_k1 := List.mem_append_right _ (List.mem_append_left _ (List.mem_of_getElem? (i := 4) rfl))
theorem mw_k1_45 : Cond.methodLink RX12 208 yX5_printedAt ∈ VS_k1 := List.mem_append_right _ (List.mem_append_left _ (List.mem_of_getElem? (i := 5) rfl))
theorem mw_k1_46 : Cond.instanceMethod yX5_printedAt ∈ VS_k1 := List.mem_append_right _ (List.mem_append_left _ (List.mem_of_getElem? (i := 6) rfl))
theorem mw_k1_47 : Cond.selects RX5 yX5_printedAt yX5_printedAt ∈ VS_k1 := List.mem_append_right _ (List.mem_append_left _ (List.mem_of_getElem? (i := 7) rfl))
theorem mw_k1_48 : Cond.code yX5_tell cX5_tell 2 (some .int) ∈ VS_k1 := List.mem_append_right _ (List.mem_append_left _ (List.mem_of_getElem? (i := 8) rfl))
theorem mw_k1_49 : Cond.methodLink RX12 205 yX5_tell ∈ VS_k1 := List.mem_append_right _ (List.mem_append_left _ (List.mem_of_getElem? (i := 9) rfl))
theorem mw_k1_50 : Cond.instanceMethod yX5_tell ∈ VS_k1 := List.mem_append_right _ (List.mem_append_left _ (List.mem_of_getElem? (i := 10) rfl))
theorem mw_k1_51 : Cond.selects RX5 yX5_tell yX5_tell ∈ VS_k1 := List.mem_append_right _ (List.mem_append_left _ (List.mem_of_getElem? (i := 11) rfl))
theorem mw_k1_52 : Cond.code yX5_tellTop cX5_tellTop 2 (some .int) ∈ VS_k1 := List.mem_append_right _ (List.mem_append_left _ (List.mem_of_getElem? (i := 12) rfl))
theorem mw_k1_53 : Cond.methodLink RX12 202 yX5_tellTop ∈ VS_k1 := List.mem_append_right _ (List.mem_append_left _ (List.mem_of_getElem? (i := 13) rfl))
theorem mw_k1_54 : Cond.instanceMethod yX5_tellTop ∈ VS_k1 := List.mem_append_right _ (List.mem_append_left _ (List.mem_of_getElem? (i := 14) rfl))
theorem mw_k1_55 : Cond.selects RX5 yX5_tellTop yX5_tellTop ∈ VS_k1 := List.mem_append_right _ (List.mem_append_left _ (List.mem_of_getElem? (i := 15) rfl))
theorem mw_k1_56 : Cond.fieldLink RX12 199 "ClassMill$Space" "count" "I" ∈ VS_k1 := List.mem_append_right _ (List.mem_append_left _ (List.mem_of_getElem? (i := 16) rfl))
theorem mw_k1_57 : Cond.code yX4_isClass cX4_isClass 1 (some .boolean) ∈ VS_k1 := List.mem_append_right _ (List.mem_append_left _ (List.mem_of_getElem? (i := 17) rfl))
theorem mw_k1_58 : Cond.methodLink RX4 31 yX4_isClass ∈ VS_k1 := List.mem_append_right _ (List.mem_append_left _ (List.mem_of_getElem? (i := 18) rfl))
theorem mw_k1_59 : Cond.static yX4_isClass ∈ VS_k1 := List.mem_append_right _ (List.mem_append_left _ (List.mem_of_getElem? (i := 19) rfl))
theorem mw_k1_60 : Cond.initialized RX4 ∈ VS_k1 := List.mem_append_right _ (List.mem_append_left _ (List.mem_of_getElem? (i := 20) rfl))
theorem mw_k1_61 : Cond.fieldLink RX4 11 "ClassMill$Kin" "above" "[I" ∈ VS_k1 := List.mem_append_right _ (List.mem_append_left _ (List.mem_of_getElem? (i := 21) rfl))
theorem mw_k1_62 : Cond.code yX4_above cX4_above 2 (some .int) ∈ VS_k1 := List.mem_append_right _ (List.mem_append_left _ (List.mem_of_getElem? (i := 22) rfl))
theorem mw_k1_63 : Cond.methodLink RX12 217 yX4_above ∈ VS_k1 := List.mem_append_right _ (List.mem_append_left _ (List.mem_of_getElem? (i := 23) rfl))
theorem mw_k1_64 : Cond.instanceMethod yX4_above ∈ VS_k1 := List.mem_append_right _ (List.mem_append_left _ (List.mem_of_getElem? (i := 24) rfl))
theorem mw_k1_65 : Cond.selects RX4 yX4_above yX4_above ∈ VS_k1 := List.mem_append_right _ (List.mem_append_left _ (List.mem_of_getElem? (i := 25) rfl))
theorem mw_k1_66 : Cond.fieldLink RX12 213 "ClassMill$Space" "kin" "LClassMill$Kin;" ∈ VS_k1 := List.mem_append_right _ (List.mem_append_left _ (List.mem_of_getElem? (i := 26) rfl))
theorem mw_k1_67 : Cond.methodLink RX7 49 yX4_forget ∈ VS_k1 := List.mem_append_right _ (List.mem_append_left _ (List.mem_of_getElem? (i := 27) rfl))
theorem mw_k1_68 : Cond.instanceMethod yX4_forget ∈ VS_k1 := List.mem_append_right _ (List.mem_append_left _ (List.mem_of_getElem? (i := 28) rfl))
theorem mw_k1_69 : Cond.selects RX4 yX4_forget yX4_forget ∈ VS_k1 := List.mem_append_right _ (List.mem_append_left _ (List.mem_of_getElem? (i := 29) rfl))
theorem mw_k1_70 : Cond.fieldLink RX7 45 "ClassMill$Space" "verified" "Z" ∈ VS_k1 := List.mem_append_right _ (List.mem_append_left _ (List.mem_of_getElem? (i := 30) rfl))
theorem mw_k1_71 : Cond.fieldLink RX7 16 "ClassMill$Space" "kin" "LClassMill$Kin;" ∈ VS_k1 := List.mem_append_right _ (List.mem_append_left _ (List.mem_of_getElem? (i := 31) rfl))
theorem mw_k1_72 : Cond.code yX7_forget cX7_forget 1 none ∈ VS_k1 := List.mem_append_right _ (List.mem_append_left _ (List.mem_of_getElem? (i := 32) rfl))
theorem mw_k1_73 : Cond.methodLink RX12 158 yX7_forget ∈ VS_k1 := List.mem_append_right _ (List.mem_append_left _ (List.mem_of_getElem? (i := 33) rfl))
theorem mw_k1_74 : Cond.instanceMethod yX7_forget ∈ VS_k1 := List.mem_append_right _ (List.mem_append_left _ (List.mem_of_getElem? (i := 34) rfl))
theorem mw_k1_75 : Cond.selects RX7 yX7_forget yX7_forget ∈ VS_k1 := List.mem_append_right _ (List.mem_append_left _ (List.mem_of_getElem? (i := 35) rfl))
theorem mw_k1_76 : Cond.code yX5_forget cX5_forget 1 none ∈ VS_k1 := List.mem_append_right _ (List.mem_append_left _ (List.mem_of_getElem? (i := 36) rfl))
theorem mw_k1_77 : Cond.methodLink RX12 153 yX5_forget ∈ VS_k1 := List.mem_append_right _ (List.mem_append_left _ (List.mem_of_getElem? (i := 37) rfl))
theorem mw_k1_78 : Cond.instanceMethod yX5_forget ∈ VS_k1 := List.mem_append_right _ (List.mem_append_left _ (List.mem_of_getElem? (i := 38) rfl))
theorem mw_k1_79 : Cond.selects RX5 yX5_forget yX5_forget ∈ VS_k1 := List.mem_append_right _ (List.mem_append_left _ (List.mem_of_getElem? (i := 39) rfl))
theorem mw_k1_80 : Cond.fieldLink RX11 50 "ClassMill$Verifier" "space" "LClassMill$Space;" ∈ VS_k1 := List.mem_append_right _ (List.mem_append_right _ (List.mem_append_left _ (List.mem_of_getElem? (i := 0) rfl)))
theorem mw_k1_81 : Cond.fieldLink RX11 68 "ClassMill$Space" "count" "I" ∈ VS_k1 := List.mem_append_right _ (List.mem_append_right _ (List.mem_append_left _ (List.mem_of_getElem? (i := 1) rfl)))
theorem mw_k1_82 : Cond.code yX7_cellsAbove cX7_cellsAbove 6 (some .int) ∈ VS_k1 := List.mem_append_right _ (List.mem_append_right _ (List.mem_append_left _ (List.mem_of_getElem? (i := 2) rfl)))
theorem mw_k1_83 : Cond.methodLink RX7 147 yX7_cellsAbove ∈ VS_k1 := List.mem_append_right _ (List.mem_append_right _ (List.mem_append_left _ (List.mem_of_getElem? (i := 3) rfl)))
theorem mw_k1_84 : Cond.instanceMethod yX7_cellsAbove ∈ VS_k1 := List.mem_append_right _ (List.mem_append_right _ (List.mem_append_left _ (List.mem_of_getElem? (i := 4) rfl)))
theorem mw_k1_85 : Cond.selects RX7 yX7_cellsAbove yX7_cellsAbove ∈ VS_k1 := List.mem_append_right _ (List.mem_append_right _ (List.mem_append_left _ (List.mem_of_getElem? (i := 5) rfl)))
theorem mw_k1_86 : Cond.fieldLink RX7 35 "ClassMill$Space" "cells" "[I" ∈ VS_k1 := List.mem_append_right _ (List.mem_append_right _ (List.mem_append_left _ (List.mem_of_getElem? (i := 6) rfl)))
theorem mw_k1_87 : Cond.code yX11_proveHeads cX11_proveHeads 3 (some .int) ∈ VS_k1 := List.mem_append_right _ (List.mem_append_right _ (List.mem_append_left _ (List.mem_of_getElem? (i := 7) rfl)))
theorem mw_k1_88 : Cond.methodLink RX12 159 yX11_proveHeads ∈ VS_k1 := List.mem_append_right _ (List.mem_append_right _ (List.mem_append_left _ (List.mem_of_getElem? (i := 8) rfl)))
theorem mw_k1_89 : Cond.instanceMethod yX11_proveHeads ∈ VS_k1 := List.mem_append_right _ (List.mem_append_right _ (List.mem_append_left _ (List.mem_of_getElem? (i := 9) rfl)))
theorem mw_k1_90 : Cond.selects RX11 yX11_proveHeads yX11_proveHeads ∈ VS_k1 := List.mem_append_right _ (List.mem_append_right _ (List.mem_append_left _ (List.mem_of_getElem? (i := 10) rfl)))
theorem mw_k1_91 : Cond.initialized RX11 ∈ VS_k1 := List.mem_append_right _ (List.mem_append_right _ (List.mem_append_left _ (List.mem_of_getElem? (i := 11) rfl)))
theorem mw_k1_92 : Cond.code yX11_proveMethods cX11_proveMethods 4 (some .int) ∈ VS_k1 := List.mem_append_right _ (List.mem_append_right _ (List.mem_append_left _ (List.mem_of_getElem? (i := 12) rfl)))
theorem mw_k1_93 : Cond.methodLink RX12 162 yX11_proveMethods ∈ VS_k1 := List.mem_append_right _ (List.mem_append_right _ (List.mem_append_left _ (List.mem_of_getElem? (i := 13) rfl)))
theorem mw_k1_94 : Cond.instanceMethod yX11_proveMethods ∈ VS_k1 := List.mem_append_right _ (List.mem_append_right _ (List.mem_append_left _ (List.mem_of_getElem? (i := 14) rfl)))
theorem mw_k1_95 : Cond.selects RX11 yX11_proveMethods yX11_proveMethods ∈ VS_k1 := List.mem_append_right _ (List.mem_append_right _ (List.mem_append_left _ (List.mem_of_getElem? (i := 15) rfl)))
theorem mw_k1_96 : Cond.code yX7_linkAll cX7_linkAll 3 none ∈ VS_k1 := List.mem_append_right _ (List.mem_append_right _ (List.mem_append_left _ (List.mem_of_getElem? (i := 16) rfl)))
theorem mw_k1_97 : Cond.methodLink RX12 169 yX7_linkAll ∈ VS_k1 := List.mem_append_right _ (List.mem_append_right _ (List.mem_append_left _ (List.mem_of_getElem? (i := 17) rfl)))
theorem mw_k1_98 : Cond.instanceMethod yX7_linkAll ∈ VS_k1 := List.mem_append_right _ (List.mem_append_right _ (List.mem_append_left _ (List.mem_of_getElem? (i := 18) rfl)))
theorem mw_k1_99 : Cond.selects RX7 yX7_linkAll yX7_linkAll ∈ VS_k1 := List.mem_append_right _ (List.mem_append_right _ (List.mem_append_left _ (List.mem_of_getElem? (i := 19) rfl)))
theorem mw_k1_100 : Cond.fieldLink RX3 43 "ClassMill$Image" "pos" "I" ∈ VS_k1 := List.mem_append_right _ (List.mem_append_right _ (List.mem_append_left _ (List.mem_of_getElem? (i := 20) rfl)))
theorem mw_k1_101 : Cond.fieldLink RX3 39 "ClassMill$Image" "size" "I" ∈ VS_k1 := List.mem_append_right _ (List.mem_append_right _ (List.mem_append_left _ (List.mem_of_getElem? (i := 21) rfl)))
theorem mw_k1_102 : Cond.fieldLink RX3 46 "ClassMill$Image" "form" "I" ∈ VS_k1 := List.mem_append_right _ (List.mem_append_right _ (List.mem_append_left _ (List.mem_of_getElem? (i := 22) rfl)))
theorem mw_k1_103 : Cond.code yX3_next cX3_next 1 (some .int) ∈ VS_k1 := List.mem_append_right _ (List.mem_append_right _ (List.mem_append_left _ (List.mem_of_getElem? (i := 23) rfl)))
theorem mw_k1_104 : Cond.methodLink RX3 87 yX3_next ∈ VS_k1 := List.mem_append_right _ (List.mem_append_right _ (List.mem_append_left _ (List.mem_of_getElem? (i := 24) rfl)))
theorem mw_k1_105 : Cond.instanceMethod yX3_next ∈ VS_k1 := List.mem_append_right _ (List.mem_append_right _ (List.mem_append_left _ (List.mem_of_getElem? (i := 25) rfl)))
theorem mw_k1_106 : Cond.selects RX3 yX3_next yX3_next ∈ VS_k1 := List.mem_append_right _ (List.mem_append_right _ (List.mem_append_left _ (List.mem_of_getElem? (i := 26) rfl)))
theorem mw_k1_107 : Cond.initialized RX3 ∈ VS_k1 := List.mem_append_right _ (List.mem_append_right _ (List.mem_append_left _ (List.mem_of_getElem? (i := 27) rfl)))
theorem mw_k1_108 : Cond.code yX3_bad cX3_bad 2 none ∈ VS_k1 := List.mem_append_right _ (List.mem_append_right _ (List.mem_append_left _ (List.mem_of_getElem? (i := 28) rfl)))
theorem mw_k1_109 : Cond.methodLink RX3 78 yX3_bad ∈ VS_k1 := List.mem_append_right _ (List.mem_append_right _ (List.mem_append_left _ (List.mem_of_getElem? (i := 29) rfl)))
theorem mw_k1_110 : Cond.instanceMethod yX3_bad ∈ VS_k1 := List.mem_append_right _ (List.mem_append_right _ (List.mem_append_left _ (List.mem_of_getElem? (i := 30) rfl)))
theorem mw_k1_111 : Cond.selects RX3 yX3_bad yX3_bad ∈ VS_k1 := List.mem_append_right _ (List.mem_append_right _ (List.mem_append_left _ (List.mem_of_getElem? (i := 31) rfl)))
theorem mw_k1_112 : Cond.code yX3_nextUpTo cX3_nextUpTo 4 (some .int) ∈ VS_k1 := List.mem_append_right _ (List.mem_append_right _ (List.mem_append_left _ (List.mem_of_getElem? (i := 32) rfl)))
theorem mw_k1_113 : Cond.methodLink RX3 71 yX3_nextUpTo ∈ VS_k1 := List.mem_append_right _ (List.mem_append_right _ (List.mem_append_left _ (List.mem_of_getElem? (i := 33) rfl)))
theorem mw_k1_114 : Cond.instanceMethod yX3_nextUpTo ∈ VS_k1 := List.mem_append_right _ (List.mem_append_right _ (List.mem_append_left _ (List.mem_of_getElem? (i := 34) rfl)))
theorem mw_k1_115 : Cond.selects RX3 yX3_nextUpTo yX3_nextUpTo ∈ VS_k1 := List.mem_append_right _ (List.mem_append_right _ (List.mem_append_left _ (List.mem_of_getElem? (i := 35) rfl)))
theorem mw_k1_116 : Cond.fieldLink RX3 90 "ClassMill$Image" "constants" "I" ∈ VS_k1 := List.mem_append_right _ (List.mem_append_right _ (List.mem_append_left _ (List.mem_of_getElem? (i := 36) rfl)))
theorem mw_k1_117 : Cond.code yX3_readConstants cX3_readConstants 2 none ∈ VS_k1 := List.mem_append_right _ (List.mem_append_right _ (List.mem_append_left _ (List.mem_of_getElem? (i := 37) rfl)))
theorem mw_k1_118 : Cond.methodLink RX3 55 yX3_readConstants ∈ VS_k1 := List.mem_append_right _ (List.mem_append_right _ (List.mem_append_left _ (List.mem_of_getElem? (i := 38) rfl)))
theorem mw_k1_119 : Cond.instanceMethod yX3_readConstants ∈ VS_k1 := List.mem_append_right _ (List.mem_append_right _ (List.mem_append_left _ (List.mem_of_getElem? (i := 39) rfl)))
theorem mw_k1_120 : Cond.selects RX3 yX3_readConstants yX3_readConstants ∈ VS_k1 := List.mem_append_right _ (List.mem_append_right _ (List.mem_append_right _ (List.mem_append_left _ (List.mem_of_getElem? (i := 0) rfl))))
theorem mw_k1_121 : Cond.code yX3_partOf cX3_partOf 3 (some .int) ∈ VS_k1 := List.mem_append_right _ (List.mem_append_right _ (List.mem_append_right _ (List.mem_append_left _ (List.mem_of_getElem? (i := 1) rfl))))
theorem mw_k1_122 : Cond.methodLink RX3 99 yX3_partOf ∈ VS_k1 := List.mem_append_right _ (List.mem_append_right _ (List.mem_append_right _ (List.mem_append_left _ (List.mem_of_getElem? (i := 2) rfl))))
theorem mw_k1_123 : Cond.instanceMethod yX3_partOf ∈ VS_k1 := List.mem_append_right _ (List.mem_append_right _ (List.mem_append_right _ (List.mem_append_left _ (List.mem_of_getElem? (i := 3) rfl))))
theorem mw_k1_124 : Cond.selects RX3 yX3_partOf yX3_partOf ∈ VS_k1 := List.mem_append_right _ (List.mem_append_right _ (List.mem_append_right _ (List.mem_append_left _ (List.mem_of_getElem? (i := 4) rfl))))
theorem mw_k1_125 : Cond.code yX3_tagOf cX3_tagOf 2 (some .int) ∈ VS_k1 := List.mem_append_right _ (List.mem_append_right _ (List.mem_append_right _ (List.mem_append_left _ (List.mem_of_getElem? (i := 5) rfl))))
theorem mw_k1_126 : Cond.methodLink RX3 112 yX3_tagOf ∈ VS_k1 := List.mem_append_right _ (List.mem_append_right _ (List.mem_append_right _ (List.mem_append_left _ (List.mem_of_getElem? (i := 6) rfl))))
theorem mw_k1_127 : Cond.instanceMethod yX3_tagOf ∈ VS_k1 := List.mem_append_right _ (List.mem_append_right _ (List.mem_append_right _ (List.mem_append_left _ (List.mem_of_getElem? (i := 7) rfl))))
theorem mw_k1_128 : Cond.selects RX3 yX3_tagOf yX3_tagOf ∈ VS_k1 := List.mem_append_right _ (List.mem_append_right _ (List.mem_append_right _ (List.mem_append_left _ (List.mem_of_getElem? (i := 8) rfl))))
theorem mw_k1_129 : Cond.code yX3_nextPlainClass cX3_nextPlainClass 3 (some .int) ∈ VS_k1 := List.mem_append_right _ (List.mem_append_right _ (List.mem_append_right _ (List.mem_append_left _ (List.mem_of_getElem? (i := 9) rfl))))
theorem mw_k1_130 : Cond.methodLink RX3 58 yX3_nextPlainClass ∈ VS_k1 := List.mem_append_right _ (List.mem_append_right _ (List.mem_append_right _ (List.mem_append_left _ (List.mem_of_getElem? (i := 10) rfl))))
theorem mw_k1_131 : Cond.instanceMethod yX3_nextPlainClass ∈ VS_k1 := List.mem_append_right _ (List.mem_append_right _ (List.mem_append_right _ (List.mem_append_left _ (List.mem_of_getElem? (i := 11) rfl))))
theorem mw_k1_132 : Cond.selects RX3 yX3_nextPlainClass yX3_nextPlainClass ∈ VS_k1 := List.mem_append_right _ (List.mem_append_right _ (List.mem_append_right _ (List.mem_append_left _ (List.mem_of_getElem? (i := 12) rfl))))
theorem mw_k1_133 : Cond.code yX3_readFields cX3_readFields 4 none ∈ VS_k1 := List.mem_append_right _ (List.mem_append_right _ (List.mem_append_right _ (List.mem_append_left _ (List.mem_of_getElem? (i := 13) rfl))))
theorem mw_k1_134 : Cond.methodLink RX3 68 yX3_readFields ∈ VS_k1 := List.mem_append_right _ (List.mem_append_right _ (List.mem_append_right _ (List.mem_append_left _ (List.mem_of_getElem? (i := 14) rfl))))
theorem mw_k1_135 : Cond.instanceMethod yX3_readFields ∈ VS_k1 := List.mem_append_right _ (List.mem_append_right _ (List.mem_append_right _ (List.mem_append_left _ (List.mem_of_getElem? (i := 15) rfl))))
theorem mw_k1_136 : Cond.selects RX3 yX3_readFields yX3_readFields ∈ VS_k1 := List.mem_append_right _ (List.mem_append_right _ (List.mem_append_right _ (List.mem_append_left _ (List.mem_of_getElem? (i := 16) rfl))))
theorem mw_k1_137 : Cond.fieldLink RX3 9 "ClassMill$Image" "bytes" "[B" ∈ VS_k1 := List.mem_append_right _ (List.mem_append_right _ (List.mem_append_right _ (List.mem_append_left _ (List.mem_of_getElem? (i := 17) rfl))))
theorem mw_k1_138 : Cond.methodLink RX3 33 yJ9_min_7cf53 ∈ VS_k1 := List.mem_append_right _ (List.mem_append_right _ (List.mem_append_right _ (List.mem_append_left _ (List.mem_of_getElem? (i := 18) rfl))))
theorem mw_k1_139 : Cond.static yJ9_min_7cf53 ∈ VS_k1 := List.mem_append_right _ (List.mem_append_right _ (List.mem_append_right _ (List.mem_append_left _ (List.mem_of_getElem? (i := 19) rfl))))
theorem mw_k1_140 : Cond.initialized "java/lang/Math" ∈ VS_k1 := List.mem_append_right _ (List.mem_append_right _ (List.mem_append_right _ (List.mem_append_left _ (List.mem_of_getElem? (i := 20) rfl))))
theorem mw_k1_141 : Cond.code yJ9_min_7cf53 cJ9_min_7cf53 2 (some .int) ∈ VS_k1 := List.mem_append_right _ (List.mem_append_right _ (List.mem_append_right _ (List.mem_append_left _ (List.mem_of_getElem? (i := 21) rfl))))
theorem mw_k1_142 : Cond.fieldLink RX3 49 "ClassMill$Image" "fields" "I" ∈ VS_k1 := List.mem_append_right _ (List.mem_append_right _ (List.mem_append_right _ (List.mem_append_left _ (List.mem_of_getElem? (i := 22) rfl))))
theorem mw_k1_143 : Cond.fieldLink RX3 52 "ClassMill$Image" "methods" "I" ∈ VS_k1 := List.mem_append_right _ (List.mem_append_right _ (List.mem_append_right _ (List.mem_append_left _ (List.mem_of_getElem? (i := 23) rfl))))
theorem mw_k1_144 : Cond.fieldLink RX3 62 "ClassMill$Image" "selfText" "I" ∈ VS_k1 := List.mem_append_right _ (List.mem_append_right _ (List.mem_append_right _ (List.mem_append_left _ (List.mem_of_getElem? (i := 24) rfl))))
theorem mw_k1_145 : Cond.fieldLink RX3 65 "ClassMill$Image" "aboveText" "I" ∈ VS_k1 := List.mem_append_right _ (List.mem_append_right _ (List.mem_append_right _ (List.mem_append_left _ (List.mem_of_getElem? (i := 25) rfl))))
theorem mw_k1_146 : Cond.code yX3_read cX3_read 5 (some .int) ∈ VS_k1 := List.mem_append_right _ (List.mem_append_right _ (List.mem_append_right _ (List.mem_append_left _ (List.mem_of_getElem? (i := 26) rfl))))
theorem mw_k1_147 : Cond.methodLink RX7 52 yX3_read ∈ VS_k1 := List.mem_append_right _ (List.mem_append_right _ (List.mem_append_right _ (List.mem_append_left _ (List.mem_of_getElem? (i := 27) rfl))))
theorem mw_k1_148 : Cond.instanceMethod yX3_read ∈ VS_k1 := List.mem_append_right _ (List.mem_append_right _ (List.mem_append_right _ (List.mem_append_left _ (List.mem_of_getElem? (i := 28) rfl))))
theorem mw_k1_149 : Cond.selects RX3 yX3_read yX3_read ∈ VS_k1 := List.mem_append_right _ (List.mem_append_right _ (List.mem_append_right _ (List.mem_append_left _ (List.mem_of_getElem? (i := 29) rfl))))
theorem mw_k1_150 : Cond.fieldLink RX7 27 "ClassMill$Space" "spare" "LClassMill$Image;" ∈ VS_k1 := List.mem_append_right _ (List.mem_append_right _ (List.mem_append_right _ (List.mem_append_left _ (List.mem_of_getElem? (i := 30) rfl))))
theorem mw_k1_151 : Cond.code yX7_bring cX7_bring 5 (some .int) ∈ VS_k1 := List.mem_append_right _ (List.mem_append_right _ (List.mem_append_right _ (List.mem_append_left _ (List.mem_of_getElem? (i := 31) rfl))))
theorem mw_k1_152 : Cond.methodLink RX12 149 yX7_bring ∈ VS_k1 := List.mem_append_right _ (List.mem_append_right _ (List.mem_append_right _ (List.mem_append_left _ (List.mem_of_getElem? (i := 32) rfl))))
theorem mw_k1_153 : Cond.instanceMethod yX7_bring ∈ VS_k1 := List.mem_append_right _ (List.mem_append_right _ (List.mem_append_right _ (List.mem_append_left _ (List.mem_of_getElem? (i := 33) rfl))))
theorem mw_k1_154 : Cond.selects RX7 yX7_bring yX7_bring ∈ VS_k1 := List.mem_append_right _ (List.mem_append_right _ (List.mem_append_right _ (List.mem_append_left _ (List.mem_of_getElem? (i := 34) rfl))))
theorem mw_k1_155 : Cond.fieldLink RX9 83 "ClassMill$Text" "count" "I" ∈ VS_k1 := List.mem_append_right _ (List.mem_append_right _ (List.mem_append_right _ (List.mem_append_left _ (List.mem_of_getElem? (i := 35) rfl))))
theorem mw_k1_156 : Cond.fieldLink RX9 15 "ClassMill$Text" "kinds" "[I" ∈ VS_k1 := List.mem_append_right _ (List.mem_append_right _ (List.mem_append_right _ (List.mem_append_left _ (List.mem_of_getElem? (i := 36) rfl))))
theorem mw_k1_157 : Cond.fieldLink RX9 19 "ClassMill$Text" "places" "[I" ∈ VS_k1 := List.mem_append_right _ (List.mem_append_right _ (List.mem_append_right _ (List.mem_append_left _ (List.mem_of_getElem? (i := 37) rfl))))
theorem mw_k1_158 : Cond.fieldLink RX9 22 "ClassMill$Text" "values" "[I" ∈ VS_k1 := List.mem_append_right _ (List.mem_append_right _ (List.mem_append_right _ (List.mem_append_left _ (List.mem_of_getElem? (i := 38) rfl))))
theorem mw_k1_159 : Cond.code yX9_behindBlanks cX9_behindBlanks 6 (some .int) ∈ VS_k1 := List.mem_append_right _ (List.mem_append_right _ (List.mem_append_right _ (List.mem_append_left _ (List.mem_of_getElem? (i := 39) rfl))))
theorem mw_k1_160 : Cond.methodLink RX9 93 yX9_behindBlanks ∈ VS_k1 := List.mem_append_right _ (List.mem_append_right _ (List.mem_append_right _ (List.mem_append_right _ (List.mem_append_left _ (List.mem_of_getElem? (i := 0) rfl)))))
theorem mw_k1_161 : Cond.static yX9_behindBlanks ∈ VS_k1 := List.mem_append_right _ (List.mem_append_right _ (List.mem_append_right _ (List.mem_append_right _ (List.mem_append_left _ (List.mem_of_getElem? (i := 1) rfl)))))
theorem mw_k1_162 : Cond.initialized RX9 ∈ VS_k1 := List.mem_append_right _ (List.mem_append_right _ (List.mem_append_right _ (List.mem_append_right _ (List.mem_append_left _ (List.mem_of_getElem? (i := 2) rfl)))))
theorem mw_k1_163 : Cond.code yX9_addToken cX9_addToken 4 none ∈ VS_k1 := List.mem_append_right _ (List.mem_append_right _ (List.mem_append_right _ (List.mem_append_right _ (List.mem_append_left _ (List.mem_of_getElem? (i := 3) rfl)))))
theorem mw_k1_164 : Cond.methodLink RX9 99 yX9_addToken ∈ VS_k1 := List.mem_append_right _ (List.mem_append_right _ (List.mem_append_right _ (List.mem_append_right _ (List.mem_append_left _ (List.mem_of_getElem? (i := 4) rfl)))))
theorem mw_k1_165 : Cond.instanceMethod yX9_addToken ∈ VS_k1 := List.mem_append_right _ (List.mem_append_right _ (List.mem_append_right _ (List.mem_append_right _ (List.mem_append_left _ (List.mem_of_getElem? (i := 5) rfl)))))
theorem mw_k1_166 : Cond.selects RX9 yX9_addToken yX9_addToken ∈ VS_k1 := List.mem_append_right _ (List.mem_append_right _ (List.mem_append_right _ (List.mem_append_right _ (List.mem_append_left _ (List.mem_of_getElem? (i := 6) rfl)))))
theorem mw_k1_167 : Cond.fieldLink RX9 73 "ClassMill$Text" "names" "I" ∈ VS_k1 := List.mem_append_right _ (List.mem_append_right _ (List.mem_append_right _ (List.mem_append_right _ (List.mem_append_left _ (List.mem_of_getElem? (i := 7) rfl)))))
theorem mw_k1_168 : Cond.fieldLink RX9 38 "ClassMill$Text" "knownBucket" "[I" ∈ VS_k1 := List.mem_append_right _ (List.mem_append_right _ (List.mem_append_right _ (List.mem_append_right _ (List.mem_append_left _ (List.mem_of_getElem? (i := 8) rfl)))))
theorem mw_k1_169 : Cond.fieldLink RX9 35 "ClassMill$Text" "bucket" "[I" ∈ VS_k1 := List.mem_append_right _ (List.mem_append_right _ (List.mem_append_right _ (List.mem_append_right _ (List.mem_append_left _ (List.mem_of_getElem? (i := 9) rfl)))))
theorem mw_k1_170 : Cond.methodLink RX9 67 arraycopyName ∈ VS_k1 := List.mem_append_right _ (List.mem_append_right _ (List.mem_append_right _ (List.mem_append_right _ (List.mem_append_left _ (List.mem_of_getElem? (i := 10) rfl)))))
theorem mw_k1_171 : Cond.native arraycopyName ∈ VS_k1 := List.mem_append_right _ (List.mem_append_right _ (List.mem_append_right _ (List.mem_append_right _ (List.mem_append_left _ (List.mem_of_getElem? (i := 11) rfl)))))
theorem mw_k1_172 : Cond.static arraycopyName ∈ VS_k1 := List.mem_append_right _ (List.mem_append_right _ (List.mem_append_right _ (List.mem_append_right _ (List.mem_append_left _ (List.mem_of_getElem? (i := 12) rfl)))))
theorem mw_k1_173 : Cond.initialized "java/lang/System" ∈ VS_k1 := List.mem_append_right _ (List.mem_append_right _ (List.mem_append_right _ (List.mem_append_right _ (List.mem_append_left _ (List.mem_of_getElem? (i := 13) rfl)))))
theorem mw_k1_174 : Cond.fieldLink RX9 86 "ClassMill$Text" "pos" "I" ∈ VS_k1 := List.mem_append_right _ (List.mem_append_right _ (List.mem_append_right _ (List.mem_append_right _ (List.mem_append_left _ (List.mem_of_getElem? (i := 14) rfl)))))
theorem mw_k1_175 : Cond.fieldLink RX9 80 "ClassMill$Text" "fault" "I" ∈ VS_k1 := List.mem_append_right _ (List.mem_append_right _ (List.mem_append_right _ (List.mem_append_right _ (List.mem_append_left _ (List.mem_of_getElem? (i := 15) rfl)))))
theorem mw_k1_176 : Cond.fieldLink RX9 41 "ClassMill$Text" "place" "I" ∈ VS_k1 := List.mem_append_right _ (List.mem_append_right _ (List.mem_append_right _ (List.mem_append_right _ (List.mem_append_left _ (List.mem_of_getElem? (i := 16) rfl)))))
theorem mw_k1_177 : Cond.methodLink RX2 82 yJ7_fill_53178 ∈ VS_k1 := List.mem_append_right _ (List.mem_append_right _ (List.mem_append_right _ (List.mem_append_right _ (List.mem_append_left _ (List.mem_of_getElem? (i := 17) rfl)))))
theorem mw_k1_178 : Cond.static yJ7_fill_53178 ∈ VS_k1 := List.mem_append_right _ (List.mem_append_right _ (List.mem_append_right _ (List.mem_append_right _ (List.mem_append_left _ (List.mem_of_getElem? (i := 18) rfl)))))
theorem mw_k1_179 : Cond.initialized RJ7 ∈ VS_k1 := List.mem_append_right _ (List.mem_append_right _ (List.mem_append_right _ (List.mem_append_right _ (List.mem_append_left _ (List.mem_of_getElem? (i := 19) rfl)))))
theorem mw_k1_180 : Cond.methodLink RX2 88 yX4_forget ∈ VS_k1 := List.mem_append_right _ (List.mem_append_right _ (List.mem_append_right _ (List.mem_append_right _ (List.mem_append_left _ (List.mem_of_getElem? (i := 20) rfl)))))
theorem mw_k1_181 : Cond.fieldLink RX2 78 "ClassMill$Heads" "classes" "I" ∈ VS_k1 := List.mem_append_right _ (List.mem_append_right _ (List.mem_append_right _ (List.mem_append_right _ (List.mem_append_left _ (List.mem_of_getElem? (i := 21) rfl)))))
theorem mw_k1_182 : Cond.fieldLink RX2 27 "ClassMill$Heads" "fields" "[I" ∈ VS_k1 := List.mem_append_right _ (List.mem_append_right _ (List.mem_append_right _ (List.mem_append_right _ (List.mem_append_left _ (List.mem_of_getElem? (i := 22) rfl)))))
theorem mw_k1_183 : Cond.fieldLink RX2 39 "ClassMill$Heads" "methods" "[I" ∈ VS_k1 := List.mem_append_right _ (List.mem_append_right _ (List.mem_append_right _ (List.mem_append_right _ (List.mem_append_left _ (List.mem_of_getElem? (i := 23) rfl)))))
theorem mw_k1_184 : Cond.fieldLink RX2 14 "ClassMill$Heads" "kin" "LClassMill$Kin;" ∈ VS_k1 := List.mem_append_right _ (List.mem_append_right _ (List.mem_append_right _ (List.mem_append_right _ (List.mem_append_left _ (List.mem_of_getElem? (i := 24) rfl)))))
theorem mw_k1_185 : Cond.code yX9_kind cX9_kind 1 (some .int) ∈ VS_k1 := List.mem_append_right _ (List.mem_append_right _ (List.mem_append_right _ (List.mem_append_right _ (List.mem_append_left _ (List.mem_of_getElem? (i := 25) rfl)))))
theorem mw_k1_186 : Cond.methodLink RX8 23 yX9_kind ∈ VS_k1 := List.mem_append_right _ (List.mem_append_right _ (List.mem_append_right _ (List.mem_append_right _ (List.mem_append_left _ (List.mem_of_getElem? (i := 26) rfl)))))
theorem mw_k1_187 : Cond.instanceMethod yX9_kind ∈ VS_k1 := List.mem_append_right _ (List.mem_append_right _ (List.mem_append_right _ (List.mem_append_right _ (List.mem_append_left _ (List.mem_of_getElem? (i := 27) rfl)))))
theorem mw_k1_188 : Cond.selects RX9 yX9_kind yX9_kind ∈ VS_k1 := List.mem_append_right _ (List.mem_append_right _ (List.mem_append_right _ (List.mem_append_right _ (List.mem_append_left _ (List.mem_of_getElem? (i := 28) rfl)))))
theorem mw_k1_189 : Cond.code yX9_tellHere cX9_tellHere 2 none ∈ VS_k1 := List.mem_append_right _ (List.mem_append_right _ (List.mem_append_right _ (List.mem_append_right _ (List.mem_append_left _ (List.mem_of_getElem? (i := 29) rfl)))))
theorem mw_k1_190 : Cond.methodLink RX8 33 yX9_tellHere ∈ VS_k1 := List.mem_append_right _ (List.mem_append_right _ (List.mem_append_right _ (List.mem_append_right _ (List.mem_append_left _ (List.mem_of_getElem? (i := 30) rfl)))))
theorem mw_k1_191 : Cond.instanceMethod yX9_tellHere ∈ VS_k1 := List.mem_append_right _ (List.mem_append_right _ (List.mem_append_right _ (List.mem_append_right _ (List.mem_append_left _ (List.mem_of_getElem? (i := 31) rfl)))))
theorem mw_k1_192 : Cond.selects RX9 yX9_tellHere yX9_tellHere ∈ VS_k1 := List.mem_append_right _ (List.mem_append_right _ (List.mem_append_right _ (List.mem_append_right _ (List.mem_append_left _ (List.mem_of_getElem? (i := 32) rfl)))))
theorem mw_k1_193 : Cond.fieldLink RX8 7 "ClassMill$Syntax" "text" "LClassMill$Text;" ∈ VS_k1 := List.mem_append_right _ (List.mem_append_right _ (List.mem_append_right _ (List.mem_append_right _ (List.mem_append_left _ (List.mem_of_getElem? (i := 33) rfl)))))
theorem mw_k1_194 : Cond.fieldLink RX2 20 "ClassMill$Heads" "classAt" "[I" ∈ VS_k1 := List.mem_append_right _ (List.mem_append_right _ (List.mem_append_right _ (List.mem_append_right _ (List.mem_append_left _ (List.mem_of_getElem? (i := 34) rfl)))))
theorem mw_k1_195 : Cond.code yX8_need cX8_need 2 none ∈ VS_k1 := List.mem_append_right _ (List.mem_append_right _ (List.mem_append_right _ (List.mem_append_right _ (List.mem_append_left _ (List.mem_of_getElem? (i := 35) rfl)))))
theorem mw_k1_196 : Cond.methodLink RX8 37 yX8_need ∈ VS_k1 := List.mem_append_right _ (List.mem_append_right _ (List.mem_append_right _ (List.mem_append_right _ (List.mem_append_left _ (List.mem_of_getElem? (i := 36) rfl)))))
theorem mw_k1_197 : Cond.instanceMethod yX8_need ∈ VS_k1 := List.mem_append_right _ (List.mem_append_right _ (List.mem_append_right _ (List.mem_append_right _ (List.mem_append_left _ (List.mem_of_getElem? (i := 37) rfl)))))
theorem mw_k1_198 : Cond.selects RX8 yX8_need yX8_need ∈ VS_k1 := List.mem_append_right _ (List.mem_append_right _ (List.mem_append_right _ (List.mem_append_right _ (List.mem_append_left _ (List.mem_of_getElem? (i := 38) rfl)))))
theorem mw_k1_199 : Cond.initialized RX8 ∈ VS_k1 := List.mem_append_right _ (List.mem_append_right _ (List.mem_append_right _ (List.mem_append_right _ (List.mem_append_left _ (List.mem_of_getElem? (i := 39) rfl)))))
theorem mw_k1_200 : Cond.code yX2_addClass cX2_addClass 2 none ∈ VS_k1 := List.mem_append_right _ (List.mem_append_right _ (List.mem_append_right _ (List.mem_append_right _ (List.mem_append_right _ (List.mem_append_left _ (List.mem_of_getElem? (i := 0) rfl))))))
theorem mw_k1_201 : Cond.methodLink RX8 40 yX2_addClass ∈ VS_k1 := List.mem_append_right _ (List.mem_append_right _ (List.mem_append_right _ (List.mem_append_right _ (List.mem_append_right _ (List.mem_append_left _ (List.mem_of_getElem? (i := 1) rfl))))))
theorem mw_k1_202 : Cond.instanceMethod yX2_addClass ∈ VS_k1 := List.mem_append_right _ (List.mem_append_right _ (List.mem_append_right _ (List.mem_append_right _ (List.mem_append_right _ (List.mem_append_left _ (List.mem_of_getElem? (i := 2) rfl))))))
theorem mw_k1_203 : Cond.selects RX2 yX2_addClass yX2_addClass ∈ VS_k1 := List.mem_append_right _ (List.mem_append_right _ (List.mem_append_right _ (List.mem_append_right _ (List.mem_append_right _ (List.mem_append_left _ (List.mem_of_getElem? (i := 3) rfl))))))
theorem mw_k1_204 : Cond.initialized RX2 ∈ VS_k1 := List.mem_append_right _ (List.mem_append_right _ (List.mem_append_right _ (List.mem_append_right _ (List.mem_append_right _ (List.mem_append_left _ (List.mem_of_getElem? (i := 4) rfl))))))
theorem mw_k1_205 : Cond.code yX8_accept cX8_accept 2 (some .boolean) ∈ VS_k1 := List.mem_append_right _ (List.mem_append_right _ (List.mem_append_right _ (List.mem_append_right _ (List.mem_append_right _ (List.mem_append_left _ (List.mem_of_getElem? (i := 5) rfl))))))
theorem mw_k1_206 : Cond.methodLink RX8 45 yX8_accept ∈ VS_k1 := List.mem_append_right _ (List.mem_append_right _ (List.mem_append_right _ (List.mem_append_right _ (List.mem_append_right _ (List.mem_append_left _ (List.mem_of_getElem? (i := 6) rfl))))))
theorem mw_k1_207 : Cond.instanceMethod yX8_accept ∈ VS_k1 := List.mem_append_right _ (List.mem_append_right _ (List.mem_append_right _ (List.mem_append_right _ (List.mem_append_right _ (List.mem_append_left _ (List.mem_of_getElem? (i := 7) rfl))))))
theorem mw_k1_208 : Cond.selects RX8 yX8_accept yX8_accept ∈ VS_k1 := List.mem_append_right _ (List.mem_append_right _ (List.mem_append_right _ (List.mem_append_right _ (List.mem_append_right _ (List.mem_append_left _ (List.mem_of_getElem? (i := 8) rfl))))))
theorem mw_k1_209 : Cond.fieldLink RX8 13 "ClassMill$Syntax" "heads" "LClassMill$Heads;" ∈ VS_k1 := List.mem_append_right _ (List.mem_append_right _ (List.mem_append_right _ (List.mem_append_right _ (List.mem_append_right _ (List.mem_append_left _ (List.mem_of_getElem? (i := 9) rfl))))))
theorem mw_k1_210 : Cond.fieldLink RX8 30 "ClassMill$Text" "pos" "I" ∈ VS_k1 := List.mem_append_right _ (List.mem_append_right _ (List.mem_append_right _ (List.mem_append_right _ (List.mem_append_right _ (List.mem_append_left _ (List.mem_of_getElem? (i := 10) rfl))))))
theorem mw_k1_211 : Cond.fieldLink RX8 19 "ClassMill$Text" "fault" "I" ∈ VS_k1 := List.mem_append_right _ (List.mem_append_right _ (List.mem_append_right _ (List.mem_append_right _ (List.mem_append_right _ (List.mem_append_left _ (List.mem_of_getElem? (i := 11) rfl))))))
theorem mw_k1_212 : Cond.code yX8_readClass cX8_readClass 2 none ∈ VS_k1 := List.mem_append_right _ (List.mem_append_right _ (List.mem_append_right _ (List.mem_append_right _ (List.mem_append_right _ (List.mem_append_left _ (List.mem_of_getElem? (i := 12) rfl))))))
theorem mw_k1_213 : Cond.methodLink RX8 27 yX8_readClass ∈ VS_k1 := List.mem_append_right _ (List.mem_append_right _ (List.mem_append_right _ (List.mem_append_right _ (List.mem_append_right _ (List.mem_append_left _ (List.mem_of_getElem? (i := 13) rfl))))))
theorem mw_k1_214 : Cond.instanceMethod yX8_readClass ∈ VS_k1 := List.mem_append_right _ (List.mem_append_right _ (List.mem_append_right _ (List.mem_append_right _ (List.mem_append_right _ (List.mem_append_left _ (List.mem_of_getElem? (i := 14) rfl))))))
theorem mw_k1_215 : Cond.selects RX8 yX8_readClass yX8_readClass ∈ VS_k1 := List.mem_append_right _ (List.mem_append_right _ (List.mem_append_right _ (List.mem_append_right _ (List.mem_append_right _ (List.mem_append_left _ (List.mem_of_getElem? (i := 15) rfl))))))
theorem mw_k1_216 : Cond.fieldLink RX2 74 "ClassMill$Heads" "text" "LClassMill$Text;" ∈ VS_k1 := List.mem_append_right _ (List.mem_append_right _ (List.mem_append_right _ (List.mem_append_right _ (List.mem_append_right _ (List.mem_append_left _ (List.mem_of_getElem? (i := 16) rfl))))))
theorem mw_k1_217 : Cond.fieldLink RX2 91 "ClassMill$Text" "fault" "I" ∈ VS_k1 := List.mem_append_right _ (List.mem_append_right _ (List.mem_append_right _ (List.mem_append_right _ (List.mem_append_right _ (List.mem_append_left _ (List.mem_of_getElem? (i := 17) rfl))))))
theorem mw_k1_218 : Cond.fieldLink RX2 42 "ClassMill$Heads" "methodAt" "[I" ∈ VS_k1 := List.mem_append_right _ (List.mem_append_right _ (List.mem_append_right _ (List.mem_append_right _ (List.mem_append_right _ (List.mem_append_left _ (List.mem_of_getElem? (i := 18) rfl))))))
theorem mw_k1_219 : Cond.fieldLink RX2 30 "ClassMill$Heads" "fieldName" "[I" ∈ VS_k1 := List.mem_append_right _ (List.mem_append_right _ (List.mem_append_right _ (List.mem_append_right _ (List.mem_append_right _ (List.mem_append_left _ (List.mem_of_getElem? (i := 19) rfl))))))
theorem mw_k1_220 : Cond.fieldLink RX0 65 "ClassMill$Bodies" "muchAt" "I" ∈ VS_k1 := List.mem_append_right _ (List.mem_append_right _ (List.mem_append_right _ (List.mem_append_right _ (List.mem_append_right _ (List.mem_append_left _ (List.mem_of_getElem? (i := 20) rfl))))))
theorem mw_k1_221 : Cond.code yX9_scan cX9_scan 6 none ∈ VS_k1 := List.mem_append_right _ (List.mem_append_right _ (List.mem_append_right _ (List.mem_append_right _ (List.mem_append_right _ (List.mem_append_left _ (List.mem_of_getElem? (i := 21) rfl))))))
theorem mw_k1_222 : Cond.methodLink RX12 85 yX9_scan ∈ VS_k1 := List.mem_append_right _ (List.mem_append_right _ (List.mem_append_right _ (List.mem_append_right _ (List.mem_append_right _ (List.mem_append_left _ (List.mem_of_getElem? (i := 22) rfl))))))
theorem mw_k1_223 : Cond.instanceMethod yX9_scan ∈ VS_k1 := List.mem_append_right _ (List.mem_append_right _ (List.mem_append_right _ (List.mem_append_right _ (List.mem_append_right _ (List.mem_append_left _ (List.mem_of_getElem? (i := 23) rfl))))))
theorem mw_k1_224 : Cond.selects RX9 yX9_scan yX9_scan ∈ VS_k1 := List.mem_append_right _ (List.mem_append_right _ (List.mem_append_right _ (List.mem_append_right _ (List.mem_append_right _ (List.mem_append_left _ (List.mem_of_getElem? (i := 24) rfl))))))
theorem mw_k1_225 : Cond.code yX2_forget cX2_forget 1 none ∈ VS_k1 := List.mem_append_right _ (List.mem_append_right _ (List.mem_append_right _ (List.mem_append_right _ (List.mem_append_right _ (List.mem_append_left _ (List.mem_of_getElem? (i := 25) rfl))))))
theorem mw_k1_226 : Cond.methodLink RX12 89 yX2_forget ∈ VS_k1 := List.mem_append_right _ (List.mem_append_right _ (List.mem_append_right _ (List.mem_append_right _ (List.mem_append_right _ (List.mem_append_left _ (List.mem_of_getElem? (i := 26) rfl))))))
theorem mw_k1_227 : Cond.instanceMethod yX2_forget ∈ VS_k1 := List.mem_append_right _ (List.mem_append_right _ (List.mem_append_right _ (List.mem_append_right _ (List.mem_append_right _ (List.mem_append_left _ (List.mem_of_getElem? (i := 27) rfl))))))
theorem mw_k1_228 : Cond.selects RX2 yX2_forget yX2_forget ∈ VS_k1 := List.mem_append_right _ (List.mem_append_right _ (List.mem_append_right _ (List.mem_append_right _ (List.mem_append_right _ (List.mem_append_left _ (List.mem_of_getElem? (i := 28) rfl))))))
theorem mw_k1_229 : Cond.code yX8_readProgram cX8_readProgram 2 none ∈ VS_k1 := List.mem_append_right _ (List.mem_append_right _ (List.mem_append_right _ (List.mem_append_right _ (List.mem_append_right _ (List.mem_append_left _ (List.mem_of_getElem? (i := 29) rfl))))))
theorem mw_k1_230 : Cond.methodLink RX12 92 yX8_readProgram ∈ VS_k1 := List.mem_append_right _ (List.mem_append_right _ (List.mem_append_right _ (List.mem_append_right _ (List.mem_append_right _ (List.mem_append_left _ (List.mem_of_getElem? (i := 30) rfl))))))
theorem mw_k1_231 : Cond.instanceMethod yX8_readProgram ∈ VS_k1 := List.mem_append_right _ (List.mem_append_right _ (List.mem_append_right _ (List.mem_append_right _ (List.mem_append_right _ (List.mem_append_left _ (List.mem_of_getElem? (i := 31) rfl))))))
theorem mw_k1_232 : Cond.selects RX8 yX8_readProgram yX8_readProgram ∈ VS_k1 := List.mem_append_right _ (List.mem_append_right _ (List.mem_append_right _ (List.mem_append_right _ (List.mem_append_right _ (List.mem_append_left _ (List.mem_of_getElem? (i := 32) rfl))))))
theorem mw_k1_233 : Cond.code yX2_readClasses cX2_readClasses 2 none ∈ VS_k1 := List.mem_append_right _ (List.mem_append_right _ (List.mem_append_right _ (List.mem_append_right _ (List.mem_append_right _ (List.mem_append_left _ (List.mem_of_getElem? (i := 33) rfl))))))
theorem mw_k1_234 : Cond.methodLink RX12 95 yX2_readClasses ∈ VS_k1 := List.mem_append_right _ (List.mem_append_right _ (List.mem_append_right _ (List.mem_append_right _ (List.mem_append_right _ (List.mem_append_left _ (List.mem_of_getElem? (i := 34) rfl))))))
theorem mw_k1_235 : Cond.instanceMethod yX2_readClasses ∈ VS_k1 := List.mem_append_right _ (List.mem_append_right _ (List.mem_append_right _ (List.mem_append_right _ (List.mem_append_right _ (List.mem_append_left _ (List.mem_of_getElem? (i := 35) rfl))))))
theorem mw_k1_236 : Cond.selects RX2 yX2_readClasses yX2_readClasses ∈ VS_k1 := List.mem_append_right _ (List.mem_append_right _ (List.mem_append_right _ (List.mem_append_right _ (List.mem_append_right _ (List.mem_append_left _ (List.mem_of_getElem? (i := 36) rfl))))))
theorem mw_k1_237 : Cond.code yX2_readMembers cX2_readMembers 4 none ∈ VS_k1 := List.mem_append_right _ (List.mem_append_right _ (List.mem_append_right _ (List.mem_append_right _ (List.mem_append_right _ (List.mem_append_left _ (List.mem_of_getElem? (i := 37) rfl))))))
theorem mw_k1_238 : Cond.methodLink RX12 98 yX2_readMembers ∈ VS_k1 := List.mem_append_right _ (List.mem_append_right _ (List.mem_append_right _ (List.mem_append_right _ (List.mem_append_right _ (List.mem_append_left _ (List.mem_of_getElem? (i := 38) rfl))))))
theorem mw_k1_239 : Cond.instanceMethod yX2_readMembers ∈ VS_k1 := List.mem_append_right _ (List.mem_append_right _ (List.mem_append_right _ (List.mem_append_right _ (List.mem_append_right _ (List.mem_append_left _ (List.mem_of_getElem? (i := 39) rfl))))))
theorem mw_k1_240 : Cond.selects RX2 yX2_readMembers yX2_readMembers ∈ VS_k1 := List.mem_append_right _ (List.mem_append_right _ (List.mem_append_right _ (List.mem_append_right _ (List.mem_append_right _ (List.mem_append_right _ (List.mem_append_left _ (List.mem_of_getElem? (i := 0) rfl)))))))
theorem mw_k1_241 : Cond.code yX2_checkOverrides cX2_checkOverrides 2 none ∈ VS_k1 := List.mem_append_right _ (List.mem_append_right _ (List.mem_append_right _ (List.mem_append_right _ (List.mem_append_right _ (List.mem_append_right _ (List.mem_append_left _ (List.mem_of_getElem? (i := 1) rfl)))))))
theorem mw_k1_242 : Cond.methodLink RX12 101 yX2_checkOverrides ∈ VS_k1 := List.mem_append_right _ (List.mem_append_right _ (List.mem_append_right _ (List.mem_append_right _ (List.mem_append_right _ (List.mem_append_right _ (List.mem_append_left _ (List.mem_of_getElem? (i := 2) rfl)))))))
theorem mw_k1_243 : Cond.instanceMethod yX2_checkOverrides ∈ VS_k1 := List.mem_append_right _ (List.mem_append_right _ (List.mem_append_right _ (List.mem_append_right _ (List.mem_append_right _ (List.mem_append_right _ (List.mem_append_left _ (List.mem_of_getElem? (i := 3) rfl)))))))
theorem mw_k1_244 : Cond.selects RX2 yX2_checkOverrides yX2_checkOverrides ∈ VS_k1 := List.mem_append_right _ (List.mem_append_right _ (List.mem_append_right _ (List.mem_append_right _ (List.mem_append_right _ (List.mem_append_right _ (List.mem_append_left _ (List.mem_of_getElem? (i := 4) rfl)))))))
theorem mw_k1_245 : Cond.code yX2_nameKinds cX2_nameKinds 2 none ∈ VS_k1 := List.mem_append_right _ (List.mem_append_right _ (List.mem_append_right _ (List.mem_append_right _ (List.mem_append_right _ (List.mem_append_right _ (List.mem_append_left _ (List.mem_of_getElem? (i := 5) rfl)))))))
theorem mw_k1_246 : Cond.methodLink RX12 104 yX2_nameKinds ∈ VS_k1 := List.mem_append_right _ (List.mem_append_right _ (List.mem_append_right _ (List.mem_append_right _ (List.mem_append_right _ (List.mem_append_right _ (List.mem_append_left _ (List.mem_of_getElem? (i := 6) rfl)))))))
theorem mw_k1_247 : Cond.instanceMethod yX2_nameKinds ∈ VS_k1 := List.mem_append_right _ (List.mem_append_right _ (List.mem_append_right _ (List.mem_append_right _ (List.mem_append_right _ (List.mem_append_right _ (List.mem_append_left _ (List.mem_of_getElem? (i := 7) rfl)))))))
theorem mw_k1_248 : Cond.selects RX2 yX2_nameKinds yX2_nameKinds ∈ VS_k1 := List.mem_append_right _ (List.mem_append_right _ (List.mem_append_right _ (List.mem_append_right _ (List.mem_append_right _ (List.mem_append_right _ (List.mem_append_left _ (List.mem_of_getElem? (i := 8) rfl)))))))
theorem mw_k1_249 : Cond.code yX0_beginProgram cX0_beginProgram 1 none ∈ VS_k1 := List.mem_append_right _ (List.mem_append_right _ (List.mem_append_right _ (List.mem_append_right _ (List.mem_append_right _ (List.mem_append_right _ (List.mem_append_left _ (List.mem_of_getElem? (i := 9) rfl)))))))
theorem mw_k1_250 : Cond.methodLink RX12 107 yX0_beginProgram ∈ VS_k1 := List.mem_append_right _ (List.mem_append_right _ (List.mem_append_right _ (List.mem_append_right _ (List.mem_append_right _ (List.mem_append_right _ (List.mem_append_left _ (List.mem_of_getElem? (i := 10) rfl)))))))
theorem mw_k1_251 : Cond.instanceMethod yX0_beginProgram ∈ VS_k1 := List.mem_append_right _ (List.mem_append_right _ (List.mem_append_right _ (List.mem_append_right _ (List.mem_append_right _ (List.mem_append_right _ (List.mem_append_left _ (List.mem_of_getElem? (i := 11) rfl)))))))
theorem mw_k1_252 : Cond.selects RX0 yX0_beginProgram yX0_beginProgram ∈ VS_k1 := List.mem_append_right _ (List.mem_append_right _ (List.mem_append_right _ (List.mem_append_right _ (List.mem_append_right _ (List.mem_append_right _ (List.mem_append_left _ (List.mem_of_getElem? (i := 12) rfl)))))))
theorem mw_k1_253 : Cond.initialized RX0 ∈ VS_k1 := List.mem_append_right _ (List.mem_append_right _ (List.mem_append_right _ (List.mem_append_right _ (List.mem_append_right _ (List.mem_append_right _ (List.mem_append_left _ (List.mem_of_getElem? (i := 13) rfl)))))))
theorem mw_k1_254 : Cond.code yX0_closeProgram cX0_closeProgram 1 none ∈ VS_k1 := List.mem_append_right _ (List.mem_append_right _ (List.mem_append_right _ (List.mem_append_right _ (List.mem_append_right _ (List.mem_append_right _ (List.mem_append_left _ (List.mem_of_getElem? (i := 14) rfl)))))))
theorem mw_k1_255 : Cond.methodLink RX12 129 yX0_closeProgram ∈ VS_k1 := List.mem_append_right _ (List.mem_append_right _ (List.mem_append_right _ (List.mem_append_right _ (List.mem_append_right _ (List.mem_append_right _ (List.mem_append_left _ (List.mem_of_getElem? (i := 15) rfl)))))))
theorem mw_k1_256 : Cond.instanceMethod yX0_closeProgram ∈ VS_k1 := List.mem_append_right _ (List.mem_append_right _ (List.mem_append_right _ (List.mem_append_right _ (List.mem_append_right _ (List.mem_append_right _ (List.mem_append_left _ (List.mem_of_getElem? (i := 16) rfl)))))))
theorem mw_k1_257 : Cond.selects RX0 yX0_closeProgram yX0_closeProgram ∈ VS_k1 := List.mem_append_right _ (List.mem_append_right _ (List.mem_append_right _ (List.mem_append_right _ (List.mem_append_right _ (List.mem_append_right _ (List.mem_append_left _ (List.mem_of_getElem? (i := 17) rfl)))))))
theorem mw_k1_258 : Cond.fieldLink RX12 25 "ClassMill" "heads" "LClassMill$Heads;" ∈ VS_k1 := List.mem_append_right _ (List.mem_append_right _ (List.mem_append_right _ (List.mem_append_right _ (List.mem_append_right _ (List.mem_append_right _ (List.mem_append_left _ (List.mem_of_getElem? (i := 18) rfl)))))))
theorem mw_k1_259 : Cond.fieldLink RX12 34 "ClassMill" "syntax" "LClassMill$Syntax;" ∈ VS_k1 := List.mem_append_right _ (List.mem_append_right _ (List.mem_append_right _ (List.mem_append_right _ (List.mem_append_right _ (List.mem_append_right _ (List.mem_append_left _ (List.mem_of_getElem? (i := 19) rfl)))))))
theorem mw_k1_260 : Cond.fieldLink RX12 41 "ClassMill" "bodies" "LClassMill$Bodies;" ∈ VS_k1 := List.mem_append_right _ (List.mem_append_right _ (List.mem_append_right _ (List.mem_append_right _ (List.mem_append_right _ (List.mem_append_right _ (List.mem_append_left _ (List.mem_of_getElem? (i := 20) rfl)))))))
theorem mw_k1_261 : Cond.fieldLink RX12 110 "ClassMill$Heads" "classes" "I" ∈ VS_k1 := List.mem_append_right _ (List.mem_append_right _ (List.mem_append_right _ (List.mem_append_right _ (List.mem_append_right _ (List.mem_append_right _ (List.mem_append_left _ (List.mem_of_getElem? (i := 21) rfl)))))))
theorem uV_k1_X12 : ∀ w ∈ u_ws RX12 TX12 11, w ∈ VS_k1 := fun w h => List.mem_append_right _ (List.mem_append_right _ (List.mem_append_right _ (List.mem_append_right _ (List.mem_append_right _ (List.mem_append_right _ (List.mem_append_right _ (List.mem_append_left _ (h))))))))
theorem uV_k1_X9 : ∀ w ∈ u_ws RX9 TX9 13, w ∈ VS_k1 := fun w h => List.mem_append_right _ (List.mem_append_right _ (List.mem_append_right _ (List.mem_append_right _ (List.mem_append_right _ (List.mem_append_right _ (List.mem_append_right _ (List.mem_append_right _ (List.mem_append_left _ (h)))))))))
theorem uV_k1_X7 : ∀ w ∈ u_ws RX7 TX7 8, w ∈ VS_k1 := fun w h => List.mem_append_right _ (List.mem_append_right _ (List.mem_append_right _ (List.mem_append_right _ (List.mem_append_right _ (List.mem_append_right _ (List.mem_append_right _ (List.mem_append_right _ (List.mem_append_right _ (List.mem_append_left _ (h))))))))))
theorem uV_k1_X11 : ∀ w ∈ u_ws RX11 TX11 21, w ∈ VS_k1 := fun w h => List.mem_append_right _ (List.mem_append_right _ (List.mem_append_right _ (List.mem_append_right _ (List.mem_append_right _ (List.mem_append_right _ (List.mem_append_right _ (List.mem_append_right _ (List.mem_append_right _ (List.mem_append_right _ (List.mem_append_left _ (h)))))))))))
theorem uV_k1_X5 : ∀ w ∈ u_ws RX5 TX5 21, w ∈ VS_k1 := fun w h => List.mem_append_right _ (List.mem_append_right _ (List.mem_append_right _ (List.mem_append_right _ (List.mem_append_right _ (List.mem_append_right _ (List.mem_append_right _ (List.mem_append_right _ (List.mem_append_right _ (List.mem_append_right _ (List.mem_append_right _ (List.mem_append_left _ (h))))))))))))
theorem uV_k1_X4 : ∀ w ∈ u_ws RX4 TX4 2, w ∈ VS_k1 := fun w h => List.mem_append_right _ (List.mem_append_right _ (List.mem_append_right _ (List.mem_append_right _ (List.mem_append_right _ (List.mem_append_right _ (List.mem_append_right _ (List.mem_append_right _ (List.mem_append_right _ (List.mem_append_right _ (List.mem_append_right _ (List.mem_append_right _ (List.mem_append_left _ (h)))))))))))))
theorem uV_k1_X3 : ∀ w ∈ u_ws RX3 TX3 14, w ∈ VS_k1 := fun w h => List.mem_append_right _ (List.mem_append_right _ (List.mem_append_right _ (List.mem_append_right _ (List.mem_append_right _ (List.mem_append_right _ (List.mem_append_right _ (List.mem_append_right _ (List.mem_append_right _ (List.mem_append_right _ (List.mem_append_right _ (List.mem_append_right _ (List.mem_append_right _ (List.mem_append_right _ (List.mem_append_left _ (h)))))))))))))))
theorem uV_k1_X2 : ∀ w ∈ u_ws RX2 TX2 21, w ∈ VS_k1 := fun w h => List.mem_append_right _ (List.mem_append_right _ (List.mem_append_right _ (List.mem_append_right _ (List.mem_append_right _ (List.mem_append_right _ (List.mem_append_right _ (List.mem_append_right _ (List.mem_append_right _ (List.mem_append_right _ (List.mem_append_right _ (List.mem_append_right _ (List.mem_append_right _ (List.mem_append_right _ (List.mem_append_right _ (List.mem_append_left _ (h))))))))))))))))
theorem uV_k1_X8 : ∀ w ∈ u_ws RX8 TX8 2, w ∈ VS_k1 := fun w h => List.mem_append_right _ (List.mem_append_right _ (List.mem_append_right _ (List.mem_append_right _ (List.mem_append_right _ (List.mem_append_right _ (List.mem_append_right _ (List.mem_append_right _ (List.mem_append_right _ (List.mem_append_right _ (List.mem_append_right _ (List.mem_append_right _ (List.mem_append_right _ (List.mem_append_right _ (List.mem_append_right _ (List.mem_append_right _ (List.mem_append_right _ (List.mem_append_left _ (h))))))))))))))))))
theorem uV_k1_X0 : ∀ w ∈ u_ws RX0 TX0 13, w ∈ VS_k1 := fun w h => List.mem_append_right _ (List.mem_append_right _ (List.mem_append_right _ (List.mem_append_right _ (List.mem_append_right _ (List.mem_append_right _ (List.mem_append_right _ (List.mem_append_right _ (List.mem_append_right _ (List.mem_append_right _ (List.mem_append_right _ (List.mem_append_right _ (List.mem_append_right _ (List.mem_append_right _ (List.mem_append_right _ (List.mem_append_right _ (List.mem_append_right _ (List.mem_append_right _ (h))))))))))))))))))
set_option maxRecDepth 100000 in
theorem gs_k1 : GoodIn VS_k1 VS_k1 := vs_self (by decide +kernel)
set_option maxRecDepth 100000 in
theorem in_k1_wsX4_forget : GoodIn VS_k1 wsX4_forget := goodIn_sub (fun w h => List.mem_append_right _ (List.mem_append_right _ (List.mem_append_right _ (List.mem_append_right _ (List.mem_append_right _ (List.mem_append_right _ (List.mem_append_right _ (List.mem_append_right _ (List.mem_append_right _ (List.mem_append_right _ (List.mem_append_right _ (List.mem_append_right _ (List.mem_append_right _ (List.mem_append_left _ (h))))))))))))))) (by decide +kernel)
set_option maxRecDepth 100000 in
theorem in_k1_wsJ7_fill_53178 : GoodIn VS_k1 wsJ7_fill_53178 := goodIn_sub (fun w h => List.mem_append_right _ (List.mem_append_right _ (List.mem_append_right _ (List.mem_append_right _ (List.mem_append_right _ (List.mem_append_right _ (List.mem_append_right _ (List.mem_append_right _ (List.mem_append_right _ (List.mem_append_right _ (List.mem_append_right _ (List.mem_append_right _ (List.mem_append_right _ (List.mem_append_right _ (List.mem_append_right _ (List.mem_append_right _ (List.mem_append_left _ (h)))))))))))))))))) (by decide +kernel)
theorem gv_k1_0 : GoodIn VS_k1 (wsV RX12 77 RX12 yX12_putNumber (.code yX12_putNumber cX12_putNumber 3 none :: VS_k1)) := goodIn_app (vs_in4 mw_k1_3 mw_k1_4 mw_k1_5 mw_k1_6 (by decide +kernel)) (vs_cons mw_k1_2 (by decide +kernel) gs_k1)
theorem gv_k1_1 : GoodIn VS_k1 (wsV RX12 77 RX12 yX12_putNumber (.code yX12_putNumber cX12_putNumber 3 none :: VS_k1)) := goodIn_app (vs_in4 mw_k1_3 mw_k1_4 mw_k1_5 mw_k1_6 (by decide +kernel)) (vs_cons mw_k1_2 (by decide +kernel) gs_k1)
theorem gv_k1_2 : GoodIn VS_k1 (wsV RX12 77 RX12 yX12_putNumber (.code yX12_putNumber cX12_putNumber 3 none :: VS_k1)) := goodIn_app (vs_in4 mw_k1_3 mw_k1_4 mw_k1_5 mw_k1_6 (by decide +kernel)) (vs_cons mw_k1_2 (by decide +kernel) gs_k1)
theorem gv_k1_3 : GoodIn VS_k1 (wsV RX12 77 RX12 yX12_putNumber (.code yX12_putNumber cX12_putNumber 3 none :: VS_k1)) := goodIn_app (vs_in4 mw_k1_3 mw_k1_4 mw_k1_5 mw_k1_6 (by decide +kernel)) (vs_cons mw_k1_2 (by decide +kernel) gs_k1)
theorem gv_k1_4 : GoodIn VS_k1 (wsV RX12 77 RX12 yX12_putNumber (.code yX12_putNumber cX12_putNumber 3 none :: VS_k1)) := goodIn_app (vs_in4 mw_k1_3 mw_k1_4 mw_k1_5 mw_k1_6 (by decide +kernel)) (vs_cons mw_k1_2 (by decide +kernel) gs_k1)
theorem gv_k1_5 : GoodIn VS_k1 (wsV RX12 146 RX12 yX12_imageOf (.code yX12_imageOf cX12_imageOf 2 (some (.array .byte)) :: VS_k1)) := goodIn_app (vs_in4 mw_k1_11 mw_k1_12 mw_k1_13 mw_k1_6 (by decide +kernel)) (vs_cons mw_k1_10 (by decide +kernel) gs_k1)
theorem gv_k1_6 : GoodIn VS_k1 (wsV RX7 90 RX7 yX7_imageOf (.code yX7_imageOf cX7_imageOf 2 (some (.object "ClassMill$Image")) :: VS_k1)) := goodIn_app (vs_in4 mw_k1_16 mw_k1_17 mw_k1_18 mw_k1_19 (by decide +kernel)) (vs_cons mw_k1_15 (by decide +kernel) gs_k1)
theorem gv_k1_7 : GoodIn VS_k1 (wsV RX12 154 RX7 yX7_change (.code yX7_change cX7_change 7 (some .boolean) :: VS_k1)) := goodIn_app (vs_in4 mw_k1_21 mw_k1_22 mw_k1_23 mw_k1_19 (by decide +kernel)) (vs_cons mw_k1_20 (by decide +kernel) gs_k1)
theorem gv_k1_8 : GoodIn VS_k1 (wsV RX12 181 RX7 yX7_imageOf (.code yX7_imageOf cX7_imageOf 2 (some (.object "ClassMill$Image")) :: VS_k1)) := goodIn_app (vs_in4 mw_k1_29 mw_k1_17 mw_k1_18 mw_k1_19 (by decide +kernel)) (vs_cons mw_k1_15 (by decide +kernel) gs_k1)
theorem gv_k1_9 : GoodIn VS_k1 (wsV RX12 196 RX5 yX5_go (.code yX5_go cX5_go 3 (some .int) :: VS_k1)) := goodIn_app (vs_in4 mw_k1_34 mw_k1_35 mw_k1_36 mw_k1_37 (by decide +kernel)) (vs_cons mw_k1_33 (by decide +kernel) gs_k1)
theorem gv_k1_10 : GoodIn VS_k1 (wsV RX12 208 RX5 yX5_printedAt (.code yX5_printedAt cX5_printedAt 2 (some .int) :: VS_k1)) := goodIn_app (vs_in4 mw_k1_45 mw_k1_46 mw_k1_47 mw_k1_37 (by decide +kernel)) (vs_cons mw_k1_44 (by decide +kernel) gs_k1)
theorem gv_k1_11 : GoodIn VS_k1 (wsV RX12 205 RX5 yX5_tell (.code yX5_tell cX5_tell 2 (some .int) :: VS_k1)) := goodIn_app (vs_in4 mw_k1_49 mw_k1_50 mw_k1_51 mw_k1_37 (by decide +kernel)) (vs_cons mw_k1_48 (by decide +kernel) gs_k1)
theorem gv_k1_12 : GoodIn VS_k1 (wsV RX12 202 RX5 yX5_tellTop (.code yX5_tellTop cX5_tellTop 2 (some .int) :: VS_k1)) := goodIn_app (vs_in4 mw_k1_53 mw_k1_54 mw_k1_55 mw_k1_37 (by decide +kernel)) (vs_cons mw_k1_52 (by decide +kernel) gs_k1)
theorem gv_k1_13 : GoodIn VS_k1 (va_wsS RX4 31 yX4_isClass (.code yX4_isClass cX4_isClass 1 (some .boolean) :: VS_k1)) := goodIn_app (vs_in3 mw_k1_58 mw_k1_59 mw_k1_60 (by decide +kernel)) (vs_cons mw_k1_57 (by decide +kernel) gs_k1)
theorem gv_k1_14 : GoodIn VS_k1 (wsV RX12 217 RX4 yX4_above (.code yX4_above cX4_above 2 (some .int) :: VS_k1)) := goodIn_app (vs_in4 mw_k1_63 mw_k1_64 mw_k1_65 mw_k1_60 (by decide +kernel)) (vs_cons mw_k1_62 (by decide +kernel) gs_k1)
theorem gv_k1_15 : GoodIn VS_k1 (wsV RX7 49 RX4 yX4_forget wsX4_forget) := goodIn_app (vs_in4 mw_k1_67 mw_k1_68 mw_k1_69 mw_k1_60 (by decide +kernel)) (in_k1_wsX4_forget)
theorem gv_k1_16 : GoodIn VS_k1 (wsV RX12 158 RX7 yX7_forget (.code yX7_forget cX7_forget 1 none :: VS_k1)) := goodIn_app (vs_in4 mw_k1_73 mw_k1_74 mw_k1_75 mw_k1_19 (by decide +kernel)) (vs_cons mw_k1_72 (by decide +kernel) gs_k1)
theorem gv_k1_17 : GoodIn VS_k1 (wsV RX12 153 RX5 yX5_forget (.code yX5_forget cX5_forget 1 none :: VS_k1)) := goodIn_app (vs_in4 mw_k1_77 mw_k1_78 mw_k1_79 mw_k1_37 (by decide +kernel)) (vs_cons mw_k1_76 (by decide +kernel) gs_k1)
theorem gv_k1_18 : GoodIn VS_k1 (wsV RX7 90 RX7 yX7_imageOf (.code yX7_imageOf cX7_imageOf 2 (some (.object "ClassMill$Image")) :: VS_k1)) := goodIn_app (vs_in4 mw_k1_16 mw_k1_17 mw_k1_18 mw_k1_19 (by decide +kernel)) (vs_cons mw_k1_15 (by decide +kernel) gs_k1)
theorem gv_k1_19 : GoodIn VS_k1 (wsV RX7 147 RX7 yX7_cellsAbove (.code yX7_cellsAbove cX7_cellsAbove 6 (some .int) :: VS_k1)) := goodIn_app (vs_in4 mw_k1_83 mw_k1_84 mw_k1_85 mw_k1_19 (by decide +kernel)) (vs_cons mw_k1_82 (by decide +kernel) gs_k1)
theorem gv_k1_20 : GoodIn VS_k1 (wsV RX12 159 RX11 yX11_proveHeads (.code yX11_proveHeads cX11_proveHeads 3 (some .int) :: VS_k1)) := goodIn_app (vs_in4 mw_k1_88 mw_k1_89 mw_k1_90 mw_k1_91 (by decide +kernel)) (vs_cons mw_k1_87 (by decide +kernel) gs_k1)
theorem gv_k1_21 : GoodIn VS_k1 (wsV RX12 162 RX11 yX11_proveMethods (.code yX11_proveMethods cX11_proveMethods 4 (some .int) :: VS_k1)) := goodIn_app (vs_in4 mw_k1_93 mw_k1_94 mw_k1_95 mw_k1_91 (by decide +kernel)) (vs_cons mw_k1_92 (by decide +kernel) gs_k1)
theorem gv_k1_22 : GoodIn VS_k1 (wsV RX12 169 RX7 yX7_linkAll (.code yX7_linkAll cX7_linkAll 3 none :: VS_k1)) := goodIn_app (vs_in4 mw_k1_97 mw_k1_98 mw_k1_99 mw_k1_19 (by decide +kernel)) (vs_cons mw_k1_96 (by decide +kernel) gs_k1)
theorem gv_k1_23 : GoodIn VS_k1 (wsV RX3 87 RX3 yX3_next (.code yX3_next cX3_next 1 (some .int) :: VS_k1)) := goodIn_app (vs_in4 mw_k1_104 mw_k1_105 mw_k1_106 mw_k1_107 (by decide +kernel)) (vs_cons mw_k1_103 (by decide +kernel) gs_k1)
theorem gv_k1_24 : GoodIn VS_k1 (wsV RX3 78 RX3 yX3_bad (.code yX3_bad cX3_bad 2 none :: VS_k1)) := goodIn_app (vs_in4 mw_k1_109 mw_k1_110 mw_k1_111 mw_k1_107 (by decide +kernel)) (vs_cons mw_k1_108 (by decide +kernel) gs_k1)
theorem gv_k1_25 : GoodIn VS_k1 (wsV RX3 71 RX3 yX3_nextUpTo (.code yX3_nextUpTo cX3_nextUpTo 4 (some .int) :: VS_k1)) := goodIn_app (vs_in4 mw_k1_113 mw_k1_114 mw_k1_115 mw_k1_107 (by decide +kernel)) (vs_cons mw_k1_112 (by decide +kernel) gs_k1)
theorem gv_k1_26 : GoodIn VS_k1 (wsV RX3 87 RX3 yX3_next (.code yX3_next cX3_next 1 (some .int) :: VS_k1)) := goodIn_app (vs_in4 mw_k1_104 mw_k1_105 mw_k1_106 mw_k1_107 (by decide +kernel)) (vs_cons mw_k1_103 (by decide +kernel) gs_k1)
theorem gv_k1_27 : GoodIn VS_k1 (wsV RX3 71 RX3 yX3_nextUpTo (.code yX3_nextUpTo cX3_nextUpTo 4 (some .int) :: VS_k1)) := goodIn_app (vs_in4 mw_k1_113 mw_k1_114 mw_k1_115 mw_k1_107 (by decide +kernel)) (vs_cons mw_k1_112 (by decide +kernel) gs_k1)
theorem gv_k1_28 : GoodIn VS_k1 (wsV RX3 55 RX3 yX3_readConstants (.code yX3_readConstants cX3_readConstants 2 none :: VS_k1)) := goodIn_app (vs_in4 mw_k1_118 mw_k1_119 mw_k1_120 mw_k1_107 (by decide +kernel)) (vs_cons mw_k1_117 (by decide +kernel) gs_k1)
theorem gv_k1_29 : GoodIn VS_k1 (wsV RX3 99 RX3 yX3_partOf (.code yX3_partOf cX3_partOf 3 (some .int) :: VS_k1)) := goodIn_app (vs_in4 mw_k1_122 mw_k1_123 mw_k1_124 mw_k1_107 (by decide +kernel)) (vs_cons mw_k1_121 (by decide +kernel) gs_k1)
theorem gv_k1_30 : GoodIn VS_k1 (wsV RX3 112 RX3 yX3_tagOf (.code yX3_tagOf cX3_tagOf 2 (some .int) :: VS_k1)) := goodIn_app (vs_in4 mw_k1_126 mw_k1_127 mw_k1_128 mw_k1_107 (by decide +kernel)) (vs_cons mw_k1_125 (by decide +kernel) gs_k1)
theorem gv_k1_31 : GoodIn VS_k1 (wsV RX3 58 RX3 yX3_nextPlainClass (.code yX3_nextPlainClass cX3_nextPlainClass 3 (some .int) :: VS_k1)) := goodIn_app (vs_in4 mw_k1_130 mw_k1_131 mw_k1_132 mw_k1_107 (by decide +kernel)) (vs_cons mw_k1_129 (by decide +kernel) gs_k1)
theorem gv_k1_32 : GoodIn VS_k1 (wsV RX3 71 RX3 yX3_nextUpTo (.code yX3_nextUpTo cX3_nextUpTo 4 (some .int) :: VS_k1)) := goodIn_app (vs_in4 mw_k1_113 mw_k1_114 mw_k1_115 mw_k1_107 (by decide +kernel)) (vs_cons mw_k1_112 (by decide +kernel) gs_k1)
theorem gv_k1_33 : GoodIn VS_k1 (wsV RX3 68 RX3 yX3_readFields (.code yX3_readFields cX3_readFields 4 none :: VS_k1)) := goodIn_app (vs_in4 mw_k1_134 mw_k1_135 mw_k1_136 mw_k1_107 (by decide +kernel)) (vs_cons mw_k1_133 (by decide +kernel) gs_k1)
theorem gv_k1_34 : GoodIn VS_k1 (wsV RX7 52 RX3 yX3_read (.code yX3_read cX3_read 5 (some .int) :: VS_k1)) := goodIn_app (vs_in4 mw_k1_147 mw_k1_148 mw_k1_149 mw_k1_107 (by decide +kernel)) (vs_cons mw_k1_146 (by decide +kernel) gs_k1)
theorem gv_k1_35 : GoodIn VS_k1 (wsV RX12 149 RX7 yX7_bring (.code yX7_bring cX7_bring 5 (some .int) :: VS_k1)) := goodIn_app (vs_in4 mw_k1_152 mw_k1_153 mw_k1_154 mw_k1_19 (by decide +kernel)) (vs_cons mw_k1_151 (by decide +kernel) gs_k1)
theorem gv_k1_36 : GoodIn VS_k1 (va_wsS RX9 93 yX9_behindBlanks (.code yX9_behindBlanks cX9_behindBlanks 6 (some .int) :: VS_k1)) := goodIn_app (vs_in3 mw_k1_160 mw_k1_161 mw_k1_162 (by decide +kernel)) (vs_cons mw_k1_159 (by decide +kernel) gs_k1)
theorem gv_k1_37 : GoodIn VS_k1 (wsV RX9 99 RX9 yX9_addToken (.code yX9_addToken cX9_addToken 4 none :: VS_k1)) := goodIn_app (vs_in4 mw_k1_164 mw_k1_165 mw_k1_166 mw_k1_162 (by decide +kernel)) (vs_cons mw_k1_163 (by decide +kernel) gs_k1)
theorem gv_k1_38 : GoodIn VS_k1 (va_wsS RX2 82 yJ7_fill_53178 wsJ7_fill_53178) := goodIn_app (vs_in3 mw_k1_177 mw_k1_178 mw_k1_179 (by decide +kernel)) (in_k1_wsJ7_fill_53178)
theorem gv_k1_39 : GoodIn VS_k1 (wsV RX2 88 RX4 yX4_forget wsX4_forget) := goodIn_app (vs_in4 mw_k1_180 mw_k1_68 mw_k1_69 mw_k1_60 (by decide +kernel)) (in_k1_wsX4_forget)
theorem gv_k1_40 : GoodIn VS_k1 (wsV RX8 23 RX9 yX9_kind (.code yX9_kind cX9_kind 1 (some .int) :: VS_k1)) := goodIn_app (vs_in4 mw_k1_186 mw_k1_187 mw_k1_188 mw_k1_162 (by decide +kernel)) (vs_cons mw_k1_185 (by decide +kernel) gs_k1)
theorem gv_k1_41 : GoodIn VS_k1 (wsV RX8 33 RX9 yX9_tellHere (.code yX9_tellHere cX9_tellHere 2 none :: VS_k1)) := goodIn_app (vs_in4 mw_k1_190 mw_k1_191 mw_k1_192 mw_k1_162 (by decide +kernel)) (vs_cons mw_k1_189 (by decide +kernel) gs_k1)
theorem gv_k1_42 : GoodIn VS_k1 (wsV RX8 23 RX9 yX9_kind (.code yX9_kind cX9_kind 1 (some .int) :: VS_k1)) := goodIn_app (vs_in4 mw_k1_186 mw_k1_187 mw_k1_188 mw_k1_162 (by decide +kernel)) (vs_cons mw_k1_185 (by decide +kernel) gs_k1)
theorem gv_k1_43 : GoodIn VS_k1 (wsV RX8 33 RX9 yX9_tellHere (.code yX9_tellHere cX9_tellHere 2 none :: VS_k1)) := goodIn_app (vs_in4 mw_k1_190 mw_k1_191 mw_k1_192 mw_k1_162 (by decide +kernel)) (vs_cons mw_k1_189 (by decide +kernel) gs_k1)
theorem gv_k1_44 : GoodIn VS_k1 (wsV RX8 37 RX8 yX8_need (.code yX8_need cX8_need 2 none :: VS_k1)) := goodIn_app (vs_in4 mw_k1_196 mw_k1_197 mw_k1_198 mw_k1_199 (by decide +kernel)) (vs_cons mw_k1_195 (by decide +kernel) gs_k1)
theorem gv_k1_45 : GoodIn VS_k1 (wsV RX8 40 RX2 yX2_addClass (.code yX2_addClass cX2_addClass 2 none :: VS_k1)) := goodIn_app (vs_in4 mw_k1_201 mw_k1_202 mw_k1_203 mw_k1_204 (by decide +kernel)) (vs_cons mw_k1_200 (by decide +kernel) gs_k1)
theorem gv_k1_46 : GoodIn VS_k1 (wsV RX8 37 RX8 yX8_need (.code yX8_need cX8_need 2 none :: VS_k1)) := goodIn_app (vs_in4 mw_k1_196 mw_k1_197 mw_k1_198 mw_k1_199 (by decide +kernel)) (vs_cons mw_k1_195 (by decide +kernel) gs_k1)
theorem gv_k1_47 : GoodIn VS_k1 (wsV RX8 45 RX8 yX8_accept (.code yX8_accept cX8_accept 2 (some .boolean) :: VS_k1)) := goodIn_app (vs_in4 mw_k1_206 mw_k1_207 mw_k1_208 mw_k1_199 (by decide +kernel)) (vs_cons mw_k1_205 (by decide +kernel) gs_k1)
theorem gv_k1_48 : GoodIn VS_k1 (wsV RX8 37 RX8 yX8_need (.code yX8_need cX8_need 2 none :: VS_k1)) := goodIn_app (vs_in4 mw_k1_196 mw_k1_197 mw_k1_198 mw_k1_199 (by decide +kernel)) (vs_cons mw_k1_195 (by decide +kernel) gs_k1)
theorem gv_k1_49 : GoodIn VS_k1 (wsV RX8 37 RX8 yX8_need (.code yX8_need cX8_need 2 none :: VS_k1)) := goodIn_app (vs_in4 mw_k1_196 mw_k1_197 mw_k1_198 mw_k1_199 (by decide +kernel)) (vs_cons mw_k1_195 (by decide +kernel) gs_k1)
theorem gv_k1_50 : GoodIn VS_k1 (wsV RX8 27 RX8 yX8_readClass (.code yX8_readClass cX8_readClass 2 none :: VS_k1)) := goodIn_app (vs_in4 mw_k1_213 mw_k1_214 mw_k1_215 mw_k1_199 (by decide +kernel)) (vs_cons mw_k1_212 (by decide +kernel) gs_k1)
theorem gv_k1_51 : GoodIn VS_k1 (wsV RX12 85 RX9 yX9_scan (.code yX9_scan cX9_scan 6 none :: VS_k1)) := goodIn_app (vs_in4 mw_k1_222 mw_k1_223 mw_k1_224 mw_k1_162 (by decide +kernel)) (vs_cons mw_k1_221 (by decide +kernel) gs_k1)
theorem gv_k1_52 : GoodIn VS_k1 (wsV RX12 89 RX2 yX2_forget (.code yX2_forget cX2_forget 1 none :: VS_k1)) := goodIn_app (vs_in4 mw_k1_226 mw_k1_227 mw_k1_228 mw_k1_204 (by decide +kernel)) (vs_cons mw_k1_225 (by decide +kernel) gs_k1)
theorem gv_k1_53 : GoodIn VS_k1 (wsV RX12 92 RX8 yX8_readProgram (.code yX8_readProgram cX8_readProgram 2 none :: VS_k1)) := goodIn_app (vs_in4 mw_k1_230 mw_k1_231 mw_k1_232 mw_k1_199 (by decide +kernel)) (vs_cons mw_k1_229 (by decide +kernel) gs_k1)
theorem gv_k1_54 : GoodIn VS_k1 (wsV RX12 95 RX2 yX2_readClasses (.code yX2_readClasses cX2_readClasses 2 none :: VS_k1)) := goodIn_app (vs_in4 mw_k1_234 mw_k1_235 mw_k1_236 mw_k1_204 (by decide +kernel)) (vs_cons mw_k1_233 (by decide +kernel) gs_k1)
theorem gv_k1_55 : GoodIn VS_k1 (wsV RX12 98 RX2 yX2_readMembers (.code yX2_readMembers cX2_readMembers 4 none :: VS_k1)) := goodIn_app (vs_in4 mw_k1_238 mw_k1_239 mw_k1_240 mw_k1_204 (by decide +kernel)) (vs_cons mw_k1_237 (by decide +kernel) gs_k1)
theorem gv_k1_56 : GoodIn VS_k1 (wsV RX12 101 RX2 yX2_checkOverrides (.code yX2_checkOverrides cX2_checkOverrides 2 none :: VS_k1)) := goodIn_app (vs_in4 mw_k1_242 mw_k1_243 mw_k1_244 mw_k1_204 (by decide +kernel)) (vs_cons mw_k1_241 (by decide +kernel) gs_k1)
theorem gv_k1_57 : GoodIn VS_k1 (wsV RX12 104 RX2 yX2_nameKinds (.code yX2_nameKinds cX2_nameKinds 2 none :: VS_k1)) := goodIn_app (vs_in4 mw_k1_246 mw_k1_247 mw_k1_248 mw_k1_204 (by decide +kernel)) (vs_cons mw_k1_245 (by decide +kernel) gs_k1)
theorem gv_k1_58 : GoodIn VS_k1 (wsV RX12 107 RX0 yX0_beginProgram (.code yX0_beginProgram cX0_beginProgram 1 none :: VS_k1)) := goodIn_app (vs_in4 mw_k1_250 mw_k1_251 mw_k1_252 mw_k1_253 (by decide +kernel)) (vs_cons mw_k1_249 (by decide +kernel) gs_k1)
theorem gv_k1_59 : GoodIn VS_k1 (wsV RX12 129 RX0 yX0_closeProgram (.code yX0_closeProgram cX0_closeProgram 1 none :: VS_k1)) := goodIn_app (vs_in4 mw_k1_255 mw_k1_256 mw_k1_257 mw_k1_253 (by decide +kernel)) (vs_cons mw_k1_254 (by decide +kernel) gs_k1)
