abbrev cX3_nextUpTo : ByteArray := prog_5_method_7_code
def yX3_nextUpTo : MethodName := ⟨RX3, "nextUpTo", "(II)I"⟩
abbrev cX3_skipPairs : ByteArray := prog_5_method_8_code
def yX3_skipPairs : MethodName := ⟨RX3, "skipPairs", "(I)V"⟩
abbrev cX3_pairAt : ByteArray := prog_5_method_14_code
def yX3_pairAt : MethodName := ⟨RX3, "pairAt", "(I)I"⟩
abbrev cX3_partOf : ByteArray := prog_5_method_15_code
def yX3_partOf : MethodName := ⟨RX3, "partOf", "(II)I"⟩
abbrev cX4_setAbove : ByteArray := prog_6_method_4_code
def yX4_setAbove : MethodName := ⟨RX4, "setAbove", "(II)V"⟩
abbrev cX4_endsAbove : ByteArray := prog_6_method_13_code
def yX4_endsAbove : MethodName := ⟨RX4, "endsAbove", "(I)Z"⟩
theorem dX3_nextUpTo_0 : decode cX3_nextUpTo 0 = .ok (.aload_n 0, 1) := by decide +kernel
theorem dX3_nextUpTo_1 : decode cX3_nextUpTo 1 = .ok (.invokevirtual 87, 3) := by decide +kernel
theorem dX3_nextUpTo_4 : decode cX3_nextUpTo 4 = .ok (.istore_n 3, 1) := by decide +kernel
theorem dX3_nextUpTo_5 : decode cX3_nextUpTo 5 = .ok (.iload_n 3, 1) := by decide +kernel
theorem dX3_nextUpTo_6 : decode cX3_nextUpTo 6 = .ok (.iload_n 1, 1) := by decide +kernel
theorem dX3_nextUpTo_7 : decode cX3_nextUpTo 7 = .ok (.if_icmp .lt 8, 3) := by decide +kernel
theorem dX3_nextUpTo_10 : decode cX3_nextUpTo 10 = .ok (.iload_n 3, 1) := by decide +kernel
theorem dX3_nextUpTo_11 : decode cX3_nextUpTo 11 = .ok (.iload_n 2, 1) := by decide +kernel
theorem dX3_nextUpTo_12 : decode cX3_nextUpTo 12 = .ok (.if_icmp .le 13, 3) := by decide +kernel
theorem dX3_nextUpTo_15 : decode cX3_nextUpTo 15 = .ok (.aload_n 0, 1) := by decide +kernel
theorem dX3_nextUpTo_16 : decode cX3_nextUpTo 16 = .ok (.aload_n 0, 1) := by decide +kernel
theorem dX3_nextUpTo_17 : decode cX3_nextUpTo 17 = .ok (.getfield 43, 3) := by decide +kernel
theorem dX3_nextUpTo_20 : decode cX3_nextUpTo 20 = .ok (.iconst 1, 1) := by decide +kernel
theorem dX3_nextUpTo_21 : decode cX3_nextUpTo 21 = .ok (.isub, 1) := by decide +kernel
theorem dX3_nextUpTo_22 : decode cX3_nextUpTo 22 = .ok (.invokevirtual 78, 3) := by decide +kernel
theorem dX3_nextUpTo_25 : decode cX3_nextUpTo 25 = .ok (.iload_n 3, 1) := by decide +kernel
theorem dX3_nextUpTo_26 : decode cX3_nextUpTo 26 = .ok (.ireturn, 1) := by decide +kernel
theorem dX3_skipPairs_0 : decode cX3_skipPairs 0 = .ok (.iconst 0, 1) := by decide +kernel
theorem dX3_skipPairs_1 : decode cX3_skipPairs 1 = .ok (.istore_n 2, 1) := by decide +kernel
theorem dX3_skipPairs_2 : decode cX3_skipPairs 2 = .ok (.iload_n 2, 1) := by decide +kernel
theorem dX3_skipPairs_3 : decode cX3_skipPairs 3 = .ok (.iload_n 1, 1) := by decide +kernel
theorem dX3_skipPairs_4 : decode cX3_skipPairs 4 = .ok (.iconst 2, 1) := by decide +kernel
theorem dX3_skipPairs_5 : decode cX3_skipPairs 5 = .ok (.imul, 1) := by decide +kernel
theorem dX3_skipPairs_6 : decode cX3_skipPairs 6 = .ok (.if_icmp .ge 14, 3) := by decide +kernel
theorem dX3_skipPairs_9 : decode cX3_skipPairs 9 = .ok (.aload_n 0, 1) := by decide +kernel
theorem dX3_skipPairs_10 : decode cX3_skipPairs 10 = .ok (.invokevirtual 87, 3) := by decide +kernel
theorem dX3_skipPairs_13 : decode cX3_skipPairs 13 = .ok (.pop, 1) := by decide +kernel
theorem dX3_skipPairs_14 : decode cX3_skipPairs 14 = .ok (.iinc 2 1, 3) := by decide +kernel
theorem dX3_skipPairs_17 : decode cX3_skipPairs 17 = .ok (.goto (-15), 3) := by decide +kernel
theorem dX3_skipPairs_20 : decode cX3_skipPairs 20 = .ok (.return_, 1) := by decide +kernel
theorem dX3_pairAt_0 : decode cX3_pairAt 0 = .ok (.aload_n 0, 1) := by decide +kernel
theorem dX3_pairAt_1 : decode cX3_pairAt 1 = .ok (.iload_n 1, 1) := by decide +kernel
theorem dX3_pairAt_2 : decode cX3_pairAt 2 = .ok (.invokevirtual 119, 3) := by decide +kernel
theorem dX3_pairAt_5 : decode cX3_pairAt 5 = .ok (.bipush 8, 2) := by decide +kernel
theorem dX3_pairAt_7 : decode cX3_pairAt 7 = .ok (.ishl, 1) := by decide +kernel
theorem dX3_pairAt_8 : decode cX3_pairAt 8 = .ok (.aload_n 0, 1) := by decide +kernel
theorem dX3_pairAt_9 : decode cX3_pairAt 9 = .ok (.iload_n 1, 1) := by decide +kernel
theorem dX3_pairAt_10 : decode cX3_pairAt 10 = .ok (.iconst 1, 1) := by decide +kernel
theorem dX3_pairAt_11 : decode cX3_pairAt 11 = .ok (.iadd, 1) := by decide +kernel
theorem dX3_pairAt_12 : decode cX3_pairAt 12 = .ok (.invokevirtual 119, 3) := by decide +kernel
theorem dX3_pairAt_15 : decode cX3_pairAt 15 = .ok (.ior, 1) := by decide +kernel
theorem dX3_pairAt_16 : decode cX3_pairAt 16 = .ok (.ireturn, 1) := by decide +kernel
theorem dX3_partOf_0 : decode cX3_partOf 0 = .ok (.iload_n 1, 1) := by decide +kernel
theorem dX3_partOf_1 : decode cX3_partOf 1 = .ok (.iconst 1, 1) := by decide +kernel
theorem dX3_partOf_2 : decode cX3_partOf 2 = .ok (.if_icmp .lt 35, 3) := by decide +kernel
theorem dX3_partOf_5 : decode cX3_partOf 5 = .ok (.iload_n 1, 1) := by decide +kernel
theorem dX3_partOf_6 : decode cX3_partOf 6 = .ok (.aload_n 0, 1) := by decide +kernel
theorem dX3_partOf_7 : decode cX3_partOf 7 = .ok (.getfield 90, 3) := by decide +kernel
theorem dX3_partOf_10 : decode cX3_partOf 10 = .ok (.if_icmp .gt 27, 3) := by decide +kernel
theorem dX3_partOf_13 : decode cX3_partOf 13 = .ok (.iload_n 1, 1) := by decide +kernel
theorem dX3_partOf_14 : decode cX3_partOf 14 = .ok (.aload_n 0, 1) := by decide +kernel
theorem dX3_partOf_15 : decode cX3_partOf 15 = .ok (.getfield 19, 3) := by decide +kernel
theorem dX3_partOf_18 : decode cX3_partOf 18 = .ok (.arraylength, 1) := by decide +kernel
theorem dX3_partOf_19 : decode cX3_partOf 19 = .ok (.if_icmp .ge 18, 3) := by decide +kernel
theorem dX3_partOf_22 : decode cX3_partOf 22 = .ok (.aload_n 0, 1) := by decide +kernel
theorem dX3_partOf_23 : decode cX3_partOf 23 = .ok (.aload_n 0, 1) := by decide +kernel
theorem dX3_partOf_24 : decode cX3_partOf 24 = .ok (.getfield 19, 3) := by decide +kernel
theorem dX3_partOf_27 : decode cX3_partOf 27 = .ok (.iload_n 1, 1) := by decide +kernel
theorem dX3_partOf_28 : decode cX3_partOf 28 = .ok (.iaload, 1) := by decide +kernel
theorem dX3_partOf_29 : decode cX3_partOf 29 = .ok (.iload_n 2, 1) := by decide +kernel
theorem dX3_partOf_30 : decode cX3_partOf 30 = .ok (.iadd, 1) := by decide +kernel
theorem dX3_partOf_31 : decode cX3_partOf 31 = .ok (.invokevirtual 119, 3) := by decide +kernel
theorem dX3_partOf_34 : decode cX3_partOf 34 = .ok (.goto 4, 3) := by decide +kernel
theorem dX3_partOf_37 : decode cX3_partOf 37 = .ok (.iconst 0, 1) := by decide +kernel
theorem dX3_partOf_38 : decode cX3_partOf 38 = .ok (.ireturn, 1) := by decide +kernel
theorem dX4_setAbove_0 : decode cX4_setAbove 0 = .ok (.iload_n 1, 1) := by decide +kernel
theorem dX4_setAbove_1 : decode cX4_setAbove 1 = .ok (.invokestatic 31, 3) := by decide +kernel
theorem dX4_setAbove_4 : decode cX4_setAbove 4 = .ok (.ifCond .eq 10, 3) := by decide +kernel
theorem dX4_setAbove_7 : decode cX4_setAbove 7 = .ok (.aload_n 0, 1) := by decide +kernel
theorem dX4_setAbove_8 : decode cX4_setAbove 8 = .ok (.getfield 11, 3) := by decide +kernel
theorem dX4_setAbove_11 : decode cX4_setAbove 11 = .ok (.iload_n 1, 1) := by decide +kernel
theorem dX4_setAbove_12 : decode cX4_setAbove 12 = .ok (.iload_n 2, 1) := by decide +kernel
theorem dX4_setAbove_13 : decode cX4_setAbove 13 = .ok (.iastore, 1) := by decide +kernel
theorem dX4_setAbove_14 : decode cX4_setAbove 14 = .ok (.return_, 1) := by decide +kernel
theorem dX4_endsAbove_0 : decode cX4_endsAbove 0 = .ok (.iload_n 1, 1) := by decide +kernel
theorem dX4_endsAbove_1 : decode cX4_endsAbove 1 = .ok (.istore_n 2, 1) := by decide +kernel
theorem dX4_endsAbove_2 : decode cX4_endsAbove 2 = .ok (.iconst 0, 1) := by decide +kernel
theorem dX4_endsAbove_3 : decode cX4_endsAbove 3 = .ok (.istore_n 3, 1) := by decide +kernel
theorem dX4_endsAbove_4 : decode cX4_endsAbove 4 = .ok (.iload_n 3, 1) := by decide +kernel
theorem dX4_endsAbove_5 : decode cX4_endsAbove 5 = .ok (.bipush 16, 2) := by decide +kernel
theorem dX4_endsAbove_7 : decode cX4_endsAbove 7 = .ok (.if_icmp .gt 26, 3) := by decide +kernel
theorem dX4_endsAbove_10 : decode cX4_endsAbove 10 = .ok (.iload_n 2, 1) := by decide +kernel
theorem dX4_endsAbove_11 : decode cX4_endsAbove 11 = .ok (.ifCond .lt 22, 3) := by decide +kernel
theorem dX4_endsAbove_14 : decode cX4_endsAbove 14 = .ok (.iload_n 2, 1) := by decide +kernel
theorem dX4_endsAbove_15 : decode cX4_endsAbove 15 = .ok (.bipush 16, 2) := by decide +kernel
theorem dX4_endsAbove_17 : decode cX4_endsAbove 17 = .ok (.if_icmp .ge 16, 3) := by decide +kernel
theorem dX4_endsAbove_20 : decode cX4_endsAbove 20 = .ok (.aload_n 0, 1) := by decide +kernel
theorem dX4_endsAbove_21 : decode cX4_endsAbove 21 = .ok (.getfield 11, 3) := by decide +kernel
theorem dX4_endsAbove_24 : decode cX4_endsAbove 24 = .ok (.iload_n 2, 1) := by decide +kernel
theorem dX4_endsAbove_25 : decode cX4_endsAbove 25 = .ok (.iaload, 1) := by decide +kernel
theorem dX4_endsAbove_26 : decode cX4_endsAbove 26 = .ok (.istore_n 2, 1) := by decide +kernel
theorem dX4_endsAbove_27 : decode cX4_endsAbove 27 = .ok (.iinc 3 1, 3) := by decide +kernel
theorem dX4_endsAbove_30 : decode cX4_endsAbove 30 = .ok (.goto (-26), 3) := by decide +kernel
theorem dX4_endsAbove_33 : decode cX4_endsAbove 33 = .ok (.iload_n 2, 1) := by decide +kernel
theorem dX4_endsAbove_34 : decode cX4_endsAbove 34 = .ok (.iconst (-1), 1) := by decide +kernel
theorem dX4_endsAbove_35 : decode cX4_endsAbove 35 = .ok (.if_icmp .ne 7, 3) := by decide +kernel
theorem dX4_endsAbove_38 : decode cX4_endsAbove 38 = .ok (.iconst 1, 1) := by decide +kernel
theorem dX4_endsAbove_39 : decode cX4_endsAbove 39 = .ok (.goto 4, 3) := by decide +kernel
theorem dX4_endsAbove_42 : decode cX4_endsAbove 42 = .ok (.iconst 0, 1) := by decide +kernel
theorem dX4_endsAbove_43 : decode cX4_endsAbove 43 = .ok (.ireturn, 1) := by decide +kernel
def VS_h2_p0 : List Cond := [Cond.code yX4_isClass cX4_isClass 1 (some .boolean), Cond.methodLink RX4 31 yX4_isClass, Cond.static yX4_isClass, Cond.initialized RX4, Cond.fieldLink RX4 11 "ClassMill$Kin" "above" "[I", Cond.fieldLink RX3 46 "ClassMill$Image" "form" "I", Cond.fieldLink RX3 43 "ClassMill$Image" "pos" "I", Cond.fieldLink RX3 39 "ClassMill$Image" "size" "I", Cond.fieldLink RX3 9 "ClassMill$Image" "bytes" "[B", Cond.code yX3_next cX3_next 1 (some .int), Cond.methodLink RX3 87 yX3_next, Cond.instanceMethod yX3_next, Cond.selects RX3 yX3_next yX3_next, Cond.initialized RX3, Cond.code yX3_bad cX3_bad 2 none, Cond.methodLink RX3 78 yX3_bad, Cond.instanceMethod yX3_bad, Cond.selects RX3 yX3_bad yX3_bad, Cond.fieldLink RX3 90 "ClassMill$Image" "constants" "I", Cond.fieldLink RX3 15 "ClassMill$Image" "tags" "[I", Cond.code yX3_byteAt cX3_byteAt 2 (some .int), Cond.methodLink RX3 119 yX3_byteAt, Cond.instanceMethod yX3_byteAt, Cond.selects RX3 yX3_byteAt yX3_byteAt, Cond.fieldLink RX3 19 "ClassMill$Image" "at" "[I", Cond.fieldLink RX3 22 "ClassMill$Image" "textStop" "[I", Cond.fieldLink RX3 49 "ClassMill$Image" "fields" "I", Cond.fieldLink RX3 27 "ClassMill$Image" "field" "[I"]
def VS_h2 : List Cond := VS_h2_p0 ++ (wsX40 ++ (wsX30))
theorem mw_h2_0 : Cond.code yX4_isClass cX4_isClass 1 (some .boolean) ∈ VS_h2 := List.mem_append_left _ (List.mem_of_getElem? (i := 0) rfl)
theorem mw_h2_1 : Cond.methodLink RX4 31 yX4_isClass ∈ VS_h2 := List.mem_append_left _ (List.mem_of_getElem? (i := 1) rfl)
theorem mw_h2_2 : Cond.static yX4_isClass ∈ VS_h2 := List.mem_append_left _ (List.mem_of_getElem? (i := 2) rfl)
theorem mw_h2_3 : Cond.initialized RX4 ∈ VS_h2 := List.mem_append_left _ (List.mem_of_getElem? (i := 3) rfl)
theorem mw_h2_4 : Cond.fieldLink RX4 11 "ClassMill$Kin" "above" "[I" ∈ VS_h2 := List.mem_append_left _ (List.mem_of_getElem? (i := 4) rfl)
theorem mw_h2_5 : Cond.fieldLink RX3 46 "ClassMill$Image" "form" "I" ∈ VS_h2 := List.mem_append_left _ (List.mem_of_getElem? (i := 5) rfl)
theorem mw_h2_6 : Cond.fieldLink RX3 43 "ClassMill$Image" "pos" "I" ∈ VS_h2 := List.mem_append_left _ (List.mem_of_getElem? (i := 6) rfl)
theorem mw_h2_7 : Cond.fieldLink RX3 39 "ClassMill$Image" "size" "I" ∈ VS_h2 := List.mem_append_left _ (List.mem_of_getElem? (i := 7) rfl)
theorem mw_h2_8 : Cond.fieldLink RX3 9 "ClassMill$Image" "bytes" "[B" ∈ VS_h2 := List.mem_append_left _ (List.mem_of_getElem? (i := 8) rfl)
theorem mw_h2_9 : Cond.code yX3_next cX3_next 1 (some .int) ∈ VS_h2 := List.mem_append_left _ (List.mem_of_getElem? (i := 9) rfl)
theorem mw_h2_10 : Cond.methodLink RX3 87 yX3_next ∈ VS_h2 := List.mem_append_left _ (List.mem_of_getElem? (i := 10) rfl)
theorem mw_h2_11 : Cond.instanceMethod yX3_next ∈ VS_h2 := List.mem_append_left _ (List.mem_of_getElem? (i := 11) rfl)
theorem mw_h2_12 : Cond.selects RX3 yX3_next yX3_next ∈ VS_h2 := List.mem_append_left _ (List.mem_of_getElem? (i := 12) rfl)
theorem mw_h2_13 : Cond.initialized RX3 ∈ VS_h2 := List.mem_append_left _ (List.mem_of_getElem? (i := 13) rfl)
theorem mw_h2_14 : Cond.code yX3_bad cX3_bad 2 none ∈ VS_h2 := List.mem_append_left _ (List.mem_of_getElem? (i := 14) rfl)
theorem mw_h2_15 : Cond.methodLink RX3 78 yX3_bad ∈ VS_h2 := List.mem_append_left _ (List.mem_of_getElem? (i := 15) rfl)
theorem mw_h2_16 : Cond.instanceMethod yX3_bad ∈ VS_h2 := List.mem_append_left _ (List.mem_of_getElem? (i := 16) rfl)
theorem mw_h2_17 : Cond.selects RX3 yX3_bad yX3_bad ∈ VS_h2 := List.mem_append_left _ (List.mem_of_getElem? (i := 17) rfl)
theorem mw_h2_18 : Cond.fieldLink RX3 90 "ClassMill$Image" "constants" "I" ∈ VS_h2 := List.mem_append_left _ (List.mem_of_getElem? (i := 18) rfl)
theorem mw_h2_19 : Cond.fieldLink RX3 15 "ClassMill$Image" "tags" "[I" ∈ VS_h2 := List.mem_append_left _ (List.mem_of_getElem? (i := 19) rfl)
theorem mw_h2_20 : Cond.code yX3_byteAt cX3_byteAt 2 (some .int) ∈ VS_h2 := List.mem_append_left _ (List.mem_of_getElem? (i := 20) rfl)
theorem mw_h2_21 : Cond.methodLink RX3 119 yX3_byteAt ∈ VS_h2 := List.mem_append_left _ (List.mem_of_getElem? (i := 21) rfl)
theorem mw_h2_22 : Cond.instanceMethod yX3_byteAt ∈ VS_h2 := List.mem_append_left _ (List.mem_of_getElem? (i := 22) rfl)
theorem mw_h2_23 : Cond.selects RX3 yX3_byteAt yX3_byteAt ∈ VS_h2 := List.mem_append_left _ (List.mem_of_getElem? (i := 23) rfl)
theorem mw_h2_24 : Cond.fieldLink RX3 19 "ClassMill$Image" "at" "[I" ∈ VS_h2 := List.mem_append_left _ (List.mem_of_getElem? (i := 24) rfl)
theorem mw_h2_25 : Cond.fieldLink RX3 22 "ClassMill$Image" "textStop" "[I" ∈ VS_h2 := List.mem_append_left _ (List.mem_of_getElem? (i := 25) rfl)
theorem mw_h2_26 : Cond.fieldLink RX3 49 "ClassMill$Image" "fields" "I" ∈ VS_h2 := List.mem_append_left _ (List.mem_of_getElem? (i := 26) rfl)
theorem mw_h2_27 : Cond.fieldLink RX3 27 "ClassMill$Image" "field" "[I" ∈ VS_h2 := List.mem_append_left _ (List.mem_of_getElem? (i := 27) rfl)
theorem uV_h2_X4 : ∀ w ∈ u_ws RX4 TX4 2, w ∈ VS_h2 := fun w h => List.mem_append_right _ (List.mem_append_left _ (h))
theorem uV_h2_X3 : ∀ w ∈ u_ws RX3 TX3 14, w ∈ VS_h2 := fun w h => List.mem_append_right _ (List.mem_append_right _ (h))
set_option maxRecDepth 100000 in
theorem gs_h2 : GoodIn VS_h2 VS_h2 := vs_self (by decide +kernel)
theorem gv_h2_0 : GoodIn VS_h2 (va_wsS RX4 31 yX4_isClass (.code yX4_isClass cX4_isClass 1 (some .boolean) :: VS_h2)) := goodIn_app (vs_in3 mw_h2_1 mw_h2_2 mw_h2_3 (by decide +kernel)) (vs_cons mw_h2_0 (by decide +kernel) gs_h2)
theorem gv_h2_1 : GoodIn VS_h2 (wsV RX3 87 RX3 yX3_next (.code yX3_next cX3_next 1 (some .int) :: VS_h2)) := goodIn_app (vs_in4 mw_h2_10 mw_h2_11 mw_h2_12 mw_h2_13 (by decide +kernel)) (vs_cons mw_h2_9 (by decide +kernel) gs_h2)
theorem gv_h2_2 : GoodIn VS_h2 (wsV RX3 78 RX3 yX3_bad (.code yX3_bad cX3_bad 2 none :: VS_h2)) := goodIn_app (vs_in4 mw_h2_15 mw_h2_16 mw_h2_17 mw_h2_13 (by decide +kernel)) (vs_cons mw_h2_14 (by decide +kernel) gs_h2)
theorem gv_h2_3 : GoodIn VS_h2 (wsV RX3 119 RX3 yX3_byteAt (.code yX3_byteAt cX3_byteAt 2 (some .int) :: VS_h2)) := goodIn_app (vs_in4 mw_h2_21 mw_h2_22 mw_h2_23 mw_h2_13 (by decide +kernel)) (vs_cons mw_h2_20 (by decide +kernel) gs_h2)
