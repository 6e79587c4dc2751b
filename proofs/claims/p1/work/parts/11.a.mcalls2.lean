abbrev cX13_lay : ByteArray := prog_15_method_3_code
def yX13_lay : MethodName := ⟨RX13, "lay", "(I)V"⟩
abbrev cX13_feed : ByteArray := prog_15_method_4_code
def yX13_feed : MethodName := ⟨RX13, "feed", "(IIIII)I"⟩
abbrev cX13_isByte : ByteArray := prog_15_method_113_code
def yX13_isByte : MethodName := ⟨RX13, "isByte", "(I)Z"⟩
abbrev cX13_scan : ByteArray := prog_15_method_126_code
def yX13_scan : MethodName := ⟨RX13, "scan", "(I)V"⟩
abbrev cX13_superOf : ByteArray := prog_15_method_147_code
def yX13_superOf : MethodName := ⟨RX13, "superOf", "(I)I"⟩
abbrev cX13_type_ : ByteArray := prog_15_method_223_code
def yX13_type_ : MethodName := ⟨RX13, "type", "(II)I"⟩
theorem dX13_lay_0 : decode cX13_lay 0 = .ok (.bipush 24, 2) := by decide +kernel
theorem dX13_lay_2 : decode cX13_lay 2 = .ok (.istore_n 2, 1) := by decide +kernel
theorem dX13_lay_3 : decode cX13_lay 3 = .ok (.iload_n 2, 1) := by decide +kernel
theorem dX13_lay_4 : decode cX13_lay 4 = .ok (.ifCond .lt 35, 3) := by decide +kernel
theorem dX13_lay_7 : decode cX13_lay 7 = .ok (.aload_n 0, 1) := by decide +kernel
theorem dX13_lay_8 : decode cX13_lay 8 = .ok (.getfield 9, 3) := by decide +kernel
theorem dX13_lay_11 : decode cX13_lay 11 = .ok (.aload_n 0, 1) := by decide +kernel
theorem dX13_lay_12 : decode cX13_lay 12 = .ok (.getfield 312, 3) := by decide +kernel
theorem dX13_lay_15 : decode cX13_lay 15 = .ok (.iload_n 1, 1) := by decide +kernel
theorem dX13_lay_16 : decode cX13_lay 16 = .ok (.iload_n 2, 1) := by decide +kernel
theorem dX13_lay_17 : decode cX13_lay 17 = .ok (.ishr, 1) := by decide +kernel
theorem dX13_lay_18 : decode cX13_lay 18 = .ok (.sipush 255, 3) := by decide +kernel
theorem dX13_lay_21 : decode cX13_lay 21 = .ok (.iand, 1) := by decide +kernel
theorem dX13_lay_22 : decode cX13_lay 22 = .ok (.iastore, 1) := by decide +kernel
theorem dX13_lay_23 : decode cX13_lay 23 = .ok (.aload_n 0, 1) := by decide +kernel
theorem dX13_lay_24 : decode cX13_lay 24 = .ok (.dup, 1) := by decide +kernel
theorem dX13_lay_25 : decode cX13_lay 25 = .ok (.getfield 312, 3) := by decide +kernel
theorem dX13_lay_28 : decode cX13_lay 28 = .ok (.iconst 1, 1) := by decide +kernel
theorem dX13_lay_29 : decode cX13_lay 29 = .ok (.iadd, 1) := by decide +kernel
theorem dX13_lay_30 : decode cX13_lay 30 = .ok (.putfield 312, 3) := by decide +kernel
theorem dX13_lay_33 : decode cX13_lay 33 = .ok (.iinc 2 (-8), 3) := by decide +kernel
theorem dX13_lay_36 : decode cX13_lay 36 = .ok (.goto (-33), 3) := by decide +kernel
theorem dX13_lay_39 : decode cX13_lay 39 = .ok (.return_, 1) := by decide +kernel
theorem dX13_feed_0 : decode cX13_feed 0 = .ok (.aload_n 0, 1) := by decide +kernel
theorem dX13_feed_1 : decode cX13_feed 1 = .ok (.getfield 312, 3) := by decide +kernel
theorem dX13_feed_4 : decode cX13_feed 4 = .ok (.bipush 20, 2) := by decide +kernel
theorem dX13_feed_6 : decode cX13_feed 6 = .ok (.iadd, 1) := by decide +kernel
theorem dX13_feed_7 : decode cX13_feed 7 = .ok (.sipush 6000, 3) := by decide +kernel
theorem dX13_feed_10 : decode cX13_feed 10 = .ok (.if_icmp .le 5, 3) := by decide +kernel
theorem dX13_feed_15 : decode cX13_feed 15 = .ok (.aload_n 0, 1) := by decide +kernel
theorem dX13_feed_16 : decode cX13_feed 16 = .ok (.iload_n 1, 1) := by decide +kernel
theorem dX13_feed_17 : decode cX13_feed 17 = .ok (.invokevirtual 315, 3) := by decide +kernel
theorem dX13_feed_20 : decode cX13_feed 20 = .ok (.aload_n 0, 1) := by decide +kernel
theorem dX13_feed_21 : decode cX13_feed 21 = .ok (.iload_n 2, 1) := by decide +kernel
theorem dX13_feed_22 : decode cX13_feed 22 = .ok (.invokevirtual 315, 3) := by decide +kernel
theorem dX13_feed_25 : decode cX13_feed 25 = .ok (.aload_n 0, 1) := by decide +kernel
theorem dX13_feed_26 : decode cX13_feed 26 = .ok (.iload_n 3, 1) := by decide +kernel
theorem dX13_feed_27 : decode cX13_feed 27 = .ok (.invokevirtual 315, 3) := by decide +kernel
theorem dX13_feed_30 : decode cX13_feed 30 = .ok (.aload_n 0, 1) := by decide +kernel
theorem dX13_feed_31 : decode cX13_feed 31 = .ok (.iload 4, 2) := by decide +kernel
theorem dX13_feed_33 : decode cX13_feed 33 = .ok (.invokevirtual 315, 3) := by decide +kernel
theorem dX13_feed_36 : decode cX13_feed 36 = .ok (.aload_n 0, 1) := by decide +kernel
theorem dX13_feed_37 : decode cX13_feed 37 = .ok (.iload 5, 2) := by decide +kernel
theorem dX13_feed_39 : decode cX13_feed 39 = .ok (.invokevirtual 315, 3) := by decide +kernel
theorem dX13_feed_42 : decode cX13_feed 42 = .ok (.aload_n 0, 1) := by decide +kernel
theorem dX13_feed_43 : decode cX13_feed 43 = .ok (.getfield 312, 3) := by decide +kernel
theorem dX13_feed_46 : decode cX13_feed 46 = .ok (.ireturn, 1) := by decide +kernel
theorem dX13_isByte_0 : decode cX13_isByte 0 = .ok (.aload_n 0, 1) := by decide +kernel
theorem dX13_isByte_1 : decode cX13_isByte 1 = .ok (.getfield 764, 3) := by decide +kernel
theorem dX13_isByte_4 : decode cX13_isByte 4 = .ok (.iconst (-1), 1) := by decide +kernel
theorem dX13_isByte_5 : decode cX13_isByte 5 = .ok (.if_icmp .eq 5, 3) := by decide +kernel
theorem dX13_isByte_8 : decode cX13_isByte 8 = .ok (.iconst 0, 1) := by decide +kernel
theorem dX13_isByte_9 : decode cX13_isByte 9 = .ok (.ireturn, 1) := by decide +kernel
theorem dX13_isByte_10 : decode cX13_isByte 10 = .ok (.iload_n 1, 1) := by decide +kernel
theorem dX13_isByte_11 : decode cX13_isByte 11 = .ok (.aload_n 0, 1) := by decide +kernel
theorem dX13_isByte_12 : decode cX13_isByte 12 = .ok (.getfield 767, 3) := by decide +kernel
theorem dX13_isByte_15 : decode cX13_isByte 15 = .ok (.if_icmp .lt 11, 3) := by decide +kernel
theorem dX13_isByte_18 : decode cX13_isByte 18 = .ok (.aload_n 0, 1) := by decide +kernel
theorem dX13_isByte_19 : decode cX13_isByte 19 = .ok (.aload_n 0, 1) := by decide +kernel
theorem dX13_isByte_20 : decode cX13_isByte 20 = .ok (.getfield 767, 3) := by decide +kernel
theorem dX13_isByte_23 : decode cX13_isByte 23 = .ok (.putfield 764, 3) := by decide +kernel
theorem dX13_isByte_26 : decode cX13_isByte 26 = .ok (.aload_n 0, 1) := by decide +kernel
theorem dX13_isByte_27 : decode cX13_isByte 27 = .ok (.getfield 764, 3) := by decide +kernel
theorem dX13_isByte_30 : decode cX13_isByte 30 = .ok (.iconst (-1), 1) := by decide +kernel
theorem dX13_isByte_31 : decode cX13_isByte 31 = .ok (.if_icmp .ne 7, 3) := by decide +kernel
theorem dX13_isByte_38 : decode cX13_isByte 38 = .ok (.iconst 0, 1) := by decide +kernel
theorem dX13_isByte_39 : decode cX13_isByte 39 = .ok (.ireturn, 1) := by decide +kernel
theorem dX13_scan_0 : decode cX13_scan 0 = .ok (.aload_n 0, 1) := by decide +kernel
theorem dX13_scan_1 : decode cX13_scan 1 = .ok (.iload_n 1, 1) := by decide +kernel
theorem dX13_scan_2 : decode cX13_scan 2 = .ok (.putfield 788, 3) := by decide +kernel
theorem dX13_scan_5 : decode cX13_scan 5 = .ok (.aload_n 0, 1) := by decide +kernel
theorem dX13_scan_6 : decode cX13_scan 6 = .ok (.iconst (-1), 1) := by decide +kernel
theorem dX13_scan_7 : decode cX13_scan 7 = .ok (.putfield 764, 3) := by decide +kernel
theorem dX13_scan_10 : decode cX13_scan 10 = .ok (.aload_n 0, 1) := by decide +kernel
theorem dX13_scan_11 : decode cX13_scan 11 = .ok (.getfield 218, 3) := by decide +kernel
theorem dX13_scan_14 : decode cX13_scan 14 = .ok (.iload_n 1, 1) := by decide +kernel
theorem dX13_scan_15 : decode cX13_scan 15 = .ok (.iconst 0, 1) := by decide +kernel
theorem dX13_scan_16 : decode cX13_scan 16 = .ok (.iastore, 1) := by decide +kernel
theorem dX13_scan_17 : decode cX13_scan 17 = .ok (.aload_n 0, 1) := by decide +kernel
theorem dX13_scan_18 : decode cX13_scan 18 = .ok (.iconst 0, 1) := by decide +kernel
theorem dX13_scan_19 : decode cX13_scan 19 = .ok (.invokevirtual 800, 3) := by decide +kernel
theorem dX13_scan_22 : decode cX13_scan 22 = .ok (.ifCond .eq 19, 3) := by decide +kernel
theorem dX13_scan_41 : decode cX13_scan 41 = .ok (.aload_n 0, 1) := by decide +kernel
theorem dX13_scan_42 : decode cX13_scan 42 = .ok (.iconst 1, 1) := by decide +kernel
theorem dX13_scan_43 : decode cX13_scan 43 = .ok (.invokevirtual 800, 3) := by decide +kernel
theorem dX13_scan_46 : decode cX13_scan 46 = .ok (.ifCond .eq 19, 3) := by decide +kernel
theorem dX13_scan_65 : decode cX13_scan 65 = .ok (.aload_n 0, 1) := by decide +kernel
theorem dX13_scan_66 : decode cX13_scan 66 = .ok (.iconst 2, 1) := by decide +kernel
theorem dX13_scan_67 : decode cX13_scan 67 = .ok (.invokevirtual 800, 3) := by decide +kernel
theorem dX13_scan_70 : decode cX13_scan 70 = .ok (.ifCond .ne 4, 3) := by decide +kernel
theorem dX13_scan_73 : decode cX13_scan 73 = .ok (.return_, 1) := by decide +kernel
theorem dX13_superOf_0 : decode cX13_superOf 0 = .ok (.iload_n 1, 1) := by decide +kernel
theorem dX13_superOf_1 : decode cX13_superOf 1 = .ok (.bipush 8, 2) := by decide +kernel
theorem dX13_superOf_3 : decode cX13_superOf 3 = .ok (.if_icmp .ge 22, 3) := by decide +kernel
theorem dX13_superOf_6 : decode cX13_superOf 6 = .ok (.iload_n 1, 1) := by decide +kernel
theorem dX13_superOf_7 : decode cX13_superOf 7 = .ok (.ifCond .ne 7, 3) := by decide +kernel
theorem dX13_superOf_10 : decode cX13_superOf 10 = .ok (.iconst (-1), 1) := by decide +kernel
theorem dX13_superOf_11 : decode cX13_superOf 11 = .ok (.goto 13, 3) := by decide +kernel
theorem dX13_superOf_14 : decode cX13_superOf 14 = .ok (.iload_n 1, 1) := by decide +kernel
theorem dX13_superOf_15 : decode cX13_superOf 15 = .ok (.iconst 1, 1) := by decide +kernel
theorem dX13_superOf_16 : decode cX13_superOf 16 = .ok (.if_icmp .ne 7, 3) := by decide +kernel
theorem dX13_superOf_19 : decode cX13_superOf 19 = .ok (.iconst 0, 1) := by decide +kernel
theorem dX13_superOf_20 : decode cX13_superOf 20 = .ok (.goto 4, 3) := by decide +kernel
theorem dX13_superOf_23 : decode cX13_superOf 23 = .ok (.iconst 1, 1) := by decide +kernel
theorem dX13_superOf_24 : decode cX13_superOf 24 = .ok (.ireturn, 1) := by decide +kernel
theorem dX13_type__0 : decode cX13_type_ 0 = .ok (.iload_n 1, 1) := by decide +kernel
theorem dX13_type__1 : decode cX13_type_ 1 = .ok (.ifCond .lt 23, 3) := by decide +kernel
theorem dX13_type__4 : decode cX13_type_ 4 = .ok (.iload_n 1, 1) := by decide +kernel
theorem dX13_type__5 : decode cX13_type_ 5 = .ok (.bipush 8, 2) := by decide +kernel
theorem dX13_type__7 : decode cX13_type_ 7 = .ok (.aload_n 0, 1) := by decide +kernel
theorem dX13_type__8 : decode cX13_type_ 8 = .ok (.getfield 833, 3) := by decide +kernel
theorem dX13_type__11 : decode cX13_type_ 11 = .ok (.iadd, 1) := by decide +kernel
theorem dX13_type__12 : decode cX13_type_ 12 = .ok (.if_icmp .ge 12, 3) := by decide +kernel
theorem dX13_type__15 : decode cX13_type_ 15 = .ok (.iload_n 2, 1) := by decide +kernel
theorem dX13_type__16 : decode cX13_type_ 16 = .ok (.ifCond .lt 8, 3) := by decide +kernel
theorem dX13_type__19 : decode cX13_type_ 19 = .ok (.iload_n 2, 1) := by decide +kernel
theorem dX13_type__20 : decode cX13_type_ 20 = .ok (.iconst 4, 1) := by decide +kernel
theorem dX13_type__21 : decode cX13_type_ 21 = .ok (.if_icmp .le 5, 3) := by decide +kernel
theorem dX13_type__24 : decode cX13_type_ 24 = .ok (.iconst (-1), 1) := by decide +kernel
theorem dX13_type__25 : decode cX13_type_ 25 = .ok (.ireturn, 1) := by decide +kernel
theorem dX13_type__26 : decode cX13_type_ 26 = .ok (.iload_n 2, 1) := by decide +kernel
theorem dX13_type__27 : decode cX13_type_ 27 = .ok (.ifCond .ne 9, 3) := by decide +kernel
theorem dX13_type__30 : decode cX13_type_ 30 = .ok (.aload_n 0, 1) := by decide +kernel
theorem dX13_type__31 : decode cX13_type_ 31 = .ok (.iload_n 1, 1) := by decide +kernel
theorem dX13_type__32 : decode cX13_type_ 32 = .ok (.invokevirtual 873, 3) := by decide +kernel
theorem dX13_type__35 : decode cX13_type_ 35 = .ok (.ireturn, 1) := by decide +kernel
theorem dX13_type__36 : decode cX13_type_ 36 = .ok (.iload_n 1, 1) := by decide +kernel
theorem dX13_type__37 : decode cX13_type_ 37 = .ok (.bipush 8, 2) := by decide +kernel
theorem dX13_type__39 : decode cX13_type_ 39 = .ok (.isub, 1) := by decide +kernel
theorem dX13_type__40 : decode cX13_type_ 40 = .ok (.istore_n 3, 1) := by decide +kernel
theorem dX13_type__41 : decode cX13_type_ 41 = .ok (.iload_n 3, 1) := by decide +kernel
theorem dX13_type__42 : decode cX13_type_ 42 = .ok (.ifCond .ge 5, 3) := by decide +kernel
theorem dX13_type__45 : decode cX13_type_ 45 = .ok (.iconst 0, 1) := by decide +kernel
theorem dX13_type__46 : decode cX13_type_ 46 = .ok (.ireturn, 1) := by decide +kernel
def VS_c2_p0 : List Cond := [Cond.fieldLink RX13 9 "ClassMillModel" "tape" "[I", Cond.fieldLink RX13 312 "ClassMillModel" "taped" "I", Cond.code yX13_lay cX13_lay 3 none, Cond.methodLink RX13 315 yX13_lay, Cond.instanceMethod yX13_lay, Cond.selects RX13 yX13_lay yX13_lay, Cond.initialized RX13, Cond.code yX13_superOf cX13_superOf 2 (some .int), Cond.methodLink RX13 873 yX13_superOf, Cond.instanceMethod yX13_superOf, Cond.selects RX13 yX13_superOf yX13_superOf, Cond.fieldLink RX13 833 "ClassMillModel" "there" "I", Cond.fieldLink RX13 764 "ClassMillModel" "form" "I", Cond.fieldLink RX13 767 "ClassMillModel" "lookSize" "I", Cond.code yX13_isByte cX13_isByte 2 (some .boolean), Cond.methodLink RX13 800 yX13_isByte, Cond.instanceMethod yX13_isByte, Cond.selects RX13 yX13_isByte yX13_isByte, Cond.fieldLink RX13 788 "ClassMillModel" "into" "I", Cond.fieldLink RX13 218 "ClassMillModel" "constantMany" "[I"]
def VS_c2 : List Cond := VS_c2_p0 ++ (wsX130)
theorem mw_c2_0 : Cond.fieldLink RX13 9 "ClassMillModel" "tape" "[I" ∈ VS_c2 := List.mem_append_left _ (List.mem_of_getElem? (i := 0) rfl)
theorem mw_c2_1 : Cond.fieldLink RX13 312 "ClassMillModel" "taped" "I" ∈ VS_c2 := List.mem_append_left _ (List.mem_of_getElem? (i := 1) rfl)
theorem mw_c2_2 : Cond.code yX13_lay cX13_lay 3 none ∈ VS_c2 := List.mem_append_left _ (List.mem_of_getElem? (i := 2) rfl)
theorem mw_c2_3 : Cond.methodLink RX13 315 yX13_lay ∈ VS_c2 := List.mem_append_left _ (List.mem_of_getElem? (i := 3) rfl)
theorem mw_c2_4 : Cond.instanceMethod yX13_lay ∈ VS_c2 := List.mem_append_left _ (List.mem_of_getElem? (i := 4) rfl)
theorem mw_c2_5 : Cond.selects RX13 yX13_lay yX13_lay ∈ VS_c2 := List.mem_append_left _ (List.mem_of_getElem? (i := 5) rfl)
theorem mw_c2_6 : Cond.initialized RX13 ∈ VS_c2 := List.mem_append_left _ (List.mem_of_getElem? (i := 6) rfl)
theorem mw_c2_7 : Cond.code yX13_superOf cX13_superOf 2 (some .int) ∈ VS_c2 := List.mem_append_left _ (List.mem_of_getElem? (i := 7) rfl)
theorem mw_c2_8 : Cond.methodLink RX13 873 yX13_superOf ∈ VS_c2 := List.mem_append_left _ (List.mem_of_getElem? (i := 8) rfl)
theorem mw_c2_9 : Cond.instanceMethod yX13_superOf ∈ VS_c2 := List.mem_append_left _ (List.mem_of_getElem? (i := 9) rfl)
theorem mw_c2_10 : Cond.selects RX13 yX13_superOf yX13_superOf ∈ VS_c2 := List.mem_append_left _ (List.mem_of_getElem? (i := 10) rfl)
theorem mw_c2_11 : Cond.fieldLink RX13 833 "ClassMillModel" "there" "I" ∈ VS_c2 := List.mem_append_left _ (List.mem_of_getElem? (i := 11) rfl)
theorem mw_c2_12 : Cond.fieldLink RX13 764 "ClassMillModel" "form" "I" ∈ VS_c2 := List.mem_append_left _ (List.mem_of_getElem? (i := 12) rfl)
theorem mw_c2_13 : Cond.fieldLink RX13 767 "ClassMillModel" "lookSize" "I" ∈ VS_c2 := List.mem_append_left _ (List.mem_of_getElem? (i := 13) rfl)
theorem mw_c2_14 : Cond.code yX13_isByte cX13_isByte 2 (some .boolean) ∈ VS_c2 := List.mem_append_left _ (List.mem_of_getElem? (i := 14) rfl)
theorem mw_c2_15 : Cond.methodLink RX13 800 yX13_isByte ∈ VS_c2 := List.mem_append_left _ (List.mem_of_getElem? (i := 15) rfl)
theorem mw_c2_16 : Cond.instanceMethod yX13_isByte ∈ VS_c2 := List.mem_append_left _ (List.mem_of_getElem? (i := 16) rfl)
theorem mw_c2_17 : Cond.selects RX13 yX13_isByte yX13_isByte ∈ VS_c2 := List.mem_append_left _ (List.mem_of_getElem? (i := 17) rfl)
theorem mw_c2_18 : Cond.fieldLink RX13 788 "ClassMillModel" "into" "I" ∈ VS_c2 := List.mem_append_left _ (List.mem_of_getElem? (i := 18) rfl)
theorem mw_c2_19 : Cond.fieldLink RX13 218 "ClassMillModel" "constantMany" "[I" ∈ VS_c2 := List.mem_append_left _ (List.mem_of_getElem? (i := 19) rfl)
theorem uV_c2_X13 : ∀ w ∈ u_ws RX13 TX13 155, w ∈ VS_c2 := fun w h => List.mem_append_right _ (h)
set_option maxRecDepth 100000 in
theorem gs_c2 : GoodIn VS_c2 VS_c2 := vs_self (by decide +kernel)
theorem gv_c2_0 : GoodIn VS_c2 (wsV RX13 315 RX13 yX13_lay (.code yX13_lay cX13_lay 3 none :: VS_c2)) := goodIn_app (vs_in4 mw_c2_3 mw_c2_4 mw_c2_5 mw_c2_6 (by decide +kernel)) (vs_cons mw_c2_2 (by decide +kernel) gs_c2)
theorem gv_c2_1 : GoodIn VS_c2 (wsV RX13 873 RX13 yX13_superOf (.code yX13_superOf cX13_superOf 2 (some .int) :: VS_c2)) := goodIn_app (vs_in4 mw_c2_8 mw_c2_9 mw_c2_10 mw_c2_6 (by decide +kernel)) (vs_cons mw_c2_7 (by decide +kernel) gs_c2)
theorem gv_c2_2 : GoodIn VS_c2 (wsV RX13 800 RX13 yX13_isByte (.code yX13_isByte cX13_isByte 2 (some .boolean) :: VS_c2)) := goodIn_app (vs_in4 mw_c2_15 mw_c2_16 mw_c2_17 mw_c2_6 (by decide +kernel)) (vs_cons mw_c2_14 (by decide +kernel) gs_c2)
theorem gv_c2_3 : GoodIn VS_c2 (wsV RX13 800 RX13 yX13_isByte (.code yX13_isByte cX13_isByte 2 (some .boolean) :: VS_c2)) := goodIn_app (vs_in4 mw_c2_15 mw_c2_16 mw_c2_17 mw_c2_6 (by decide +kernel)) (vs_cons mw_c2_14 (by decide +kernel) gs_c2)
