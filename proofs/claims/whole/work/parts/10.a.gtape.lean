abbrev cX12_feed : ByteArray := prog_1_method_2_code
def yX12_feed : MethodName := ⟨RX12, "feed", "(IIIII)I"⟩
abbrev cX12_putNumber : ByteArray := prog_1_method_3_code
def yX12_putNumber : MethodName := ⟨RX12, "putNumber", "(I)V"⟩
abbrev cX12_end : ByteArray := prog_1_method_4_code
def yX12_end : MethodName := ⟨RX12, "end", "(I)Z"⟩
abbrev cX12_fault : ByteArray := prog_1_method_7_code
def yX12_fault : MethodName := ⟨RX12, "fault", "(I)I"⟩
abbrev cX12_where : ByteArray := prog_1_method_15_code
def yX12_where : MethodName := ⟨RX12, "where", "(I)I"⟩
abbrev cX13_lay : ByteArray := prog_15_method_3_code
def yX13_lay : MethodName := ⟨RX13, "lay", "(I)V"⟩
abbrev cX13_feed : ByteArray := prog_15_method_4_code
def yX13_feed : MethodName := ⟨RX13, "feed", "(IIIII)I"⟩
abbrev cX13_end : ByteArray := prog_15_method_5_code
def yX13_end : MethodName := ⟨RX13, "end", "(I)Z"⟩
abbrev cX13_fault : ByteArray := prog_15_method_111_code
def yX13_fault : MethodName := ⟨RX13, "fault", "(I)I"⟩
abbrev cX13_where : ByteArray := prog_15_method_162_code
def yX13_where : MethodName := ⟨RX13, "where", "(I)I"⟩
theorem dX12_feed_0 : decode cX12_feed 0 = .ok (.aload_n 0, 1) := by decide +kernel
theorem dX12_feed_1 : decode cX12_feed 1 = .ok (.getfield 73, 3) := by decide +kernel
theorem dX12_feed_4 : decode cX12_feed 4 = .ok (.bipush 20, 2) := by decide +kernel
theorem dX12_feed_6 : decode cX12_feed 6 = .ok (.iadd, 1) := by decide +kernel
theorem dX12_feed_7 : decode cX12_feed 7 = .ok (.sipush 6000, 3) := by decide +kernel
theorem dX12_feed_10 : decode cX12_feed 10 = .ok (.if_icmp .le 5, 3) := by decide +kernel
theorem dX12_feed_13 : decode cX12_feed 13 = .ok (.iconst (-1), 1) := by decide +kernel
theorem dX12_feed_14 : decode cX12_feed 14 = .ok (.ireturn, 1) := by decide +kernel
theorem dX12_feed_15 : decode cX12_feed 15 = .ok (.aload_n 0, 1) := by decide +kernel
theorem dX12_feed_16 : decode cX12_feed 16 = .ok (.iload_n 1, 1) := by decide +kernel
theorem dX12_feed_17 : decode cX12_feed 17 = .ok (.invokevirtual 77, 3) := by decide +kernel
theorem dX12_feed_20 : decode cX12_feed 20 = .ok (.aload_n 0, 1) := by decide +kernel
theorem dX12_feed_21 : decode cX12_feed 21 = .ok (.iload_n 2, 1) := by decide +kernel
theorem dX12_feed_22 : decode cX12_feed 22 = .ok (.invokevirtual 77, 3) := by decide +kernel
theorem dX12_feed_25 : decode cX12_feed 25 = .ok (.aload_n 0, 1) := by decide +kernel
theorem dX12_feed_26 : decode cX12_feed 26 = .ok (.iload_n 3, 1) := by decide +kernel
theorem dX12_feed_27 : decode cX12_feed 27 = .ok (.invokevirtual 77, 3) := by decide +kernel
theorem dX12_feed_30 : decode cX12_feed 30 = .ok (.aload_n 0, 1) := by decide +kernel
theorem dX12_feed_31 : decode cX12_feed 31 = .ok (.iload 4, 2) := by decide +kernel
theorem dX12_feed_33 : decode cX12_feed 33 = .ok (.invokevirtual 77, 3) := by decide +kernel
theorem dX12_feed_36 : decode cX12_feed 36 = .ok (.aload_n 0, 1) := by decide +kernel
theorem dX12_feed_37 : decode cX12_feed 37 = .ok (.iload 5, 2) := by decide +kernel
theorem dX12_feed_39 : decode cX12_feed 39 = .ok (.invokevirtual 77, 3) := by decide +kernel
theorem dX12_feed_42 : decode cX12_feed 42 = .ok (.aload_n 0, 1) := by decide +kernel
theorem dX12_feed_43 : decode cX12_feed 43 = .ok (.getfield 73, 3) := by decide +kernel
theorem dX12_feed_46 : decode cX12_feed 46 = .ok (.ireturn, 1) := by decide +kernel
theorem dX12_putNumber_0 : decode cX12_putNumber 0 = .ok (.bipush 24, 2) := by decide +kernel
theorem dX12_putNumber_2 : decode cX12_putNumber 2 = .ok (.istore_n 2, 1) := by decide +kernel
theorem dX12_putNumber_3 : decode cX12_putNumber 3 = .ok (.iload_n 2, 1) := by decide +kernel
theorem dX12_putNumber_4 : decode cX12_putNumber 4 = .ok (.ifCond .lt 44, 3) := by decide +kernel
theorem dX12_putNumber_7 : decode cX12_putNumber 7 = .ok (.aload_n 0, 1) := by decide +kernel
theorem dX12_putNumber_8 : decode cX12_putNumber 8 = .ok (.getfield 73, 3) := by decide +kernel
theorem dX12_putNumber_11 : decode cX12_putNumber 11 = .ok (.aload_n 0, 1) := by decide +kernel
theorem dX12_putNumber_12 : decode cX12_putNumber 12 = .ok (.getfield 9, 3) := by decide +kernel
theorem dX12_putNumber_15 : decode cX12_putNumber 15 = .ok (.arraylength, 1) := by decide +kernel
theorem dX12_putNumber_16 : decode cX12_putNumber 16 = .ok (.if_icmp .ge 26, 3) := by decide +kernel
theorem dX12_putNumber_19 : decode cX12_putNumber 19 = .ok (.aload_n 0, 1) := by decide +kernel
theorem dX12_putNumber_20 : decode cX12_putNumber 20 = .ok (.getfield 9, 3) := by decide +kernel
theorem dX12_putNumber_23 : decode cX12_putNumber 23 = .ok (.aload_n 0, 1) := by decide +kernel
theorem dX12_putNumber_24 : decode cX12_putNumber 24 = .ok (.getfield 73, 3) := by decide +kernel
theorem dX12_putNumber_27 : decode cX12_putNumber 27 = .ok (.iload_n 1, 1) := by decide +kernel
theorem dX12_putNumber_28 : decode cX12_putNumber 28 = .ok (.iload_n 2, 1) := by decide +kernel
theorem dX12_putNumber_29 : decode cX12_putNumber 29 = .ok (.ishr, 1) := by decide +kernel
theorem dX12_putNumber_30 : decode cX12_putNumber 30 = .ok (.i2b, 1) := by decide +kernel
theorem dX12_putNumber_31 : decode cX12_putNumber 31 = .ok (.bastore, 1) := by decide +kernel
theorem dX12_putNumber_32 : decode cX12_putNumber 32 = .ok (.aload_n 0, 1) := by decide +kernel
theorem dX12_putNumber_33 : decode cX12_putNumber 33 = .ok (.dup, 1) := by decide +kernel
theorem dX12_putNumber_34 : decode cX12_putNumber 34 = .ok (.getfield 73, 3) := by decide +kernel
theorem dX12_putNumber_37 : decode cX12_putNumber 37 = .ok (.iconst 1, 1) := by decide +kernel
theorem dX12_putNumber_38 : decode cX12_putNumber 38 = .ok (.iadd, 1) := by decide +kernel
theorem dX12_putNumber_39 : decode cX12_putNumber 39 = .ok (.putfield 73, 3) := by decide +kernel
theorem dX12_putNumber_42 : decode cX12_putNumber 42 = .ok (.iinc 2 (-8), 3) := by decide +kernel
theorem dX12_putNumber_45 : decode cX12_putNumber 45 = .ok (.goto (-42), 3) := by decide +kernel
theorem dX12_putNumber_48 : decode cX12_putNumber 48 = .ok (.return_, 1) := by decide +kernel
theorem dX12_end_0 : decode cX12_end 0 = .ok (.iload_n 1, 1) := by decide +kernel
theorem dX12_end_1 : decode cX12_end 1 = .ok (.ifCond .lt 11, 3) := by decide +kernel
theorem dX12_end_4 : decode cX12_end 4 = .ok (.iload_n 1, 1) := by decide +kernel
theorem dX12_end_5 : decode cX12_end 5 = .ok (.aload_n 0, 1) := by decide +kernel
theorem dX12_end_6 : decode cX12_end 6 = .ok (.getfield 73, 3) := by decide +kernel
theorem dX12_end_9 : decode cX12_end 9 = .ok (.if_icmp .le 5, 3) := by decide +kernel
theorem dX12_end_12 : decode cX12_end 12 = .ok (.iconst 0, 1) := by decide +kernel
theorem dX12_end_13 : decode cX12_end 13 = .ok (.ireturn, 1) := by decide +kernel
theorem dX12_end_14 : decode cX12_end 14 = .ok (.aload_n 0, 1) := by decide +kernel
theorem dX12_end_15 : decode cX12_end 15 = .ok (.iload_n 1, 1) := by decide +kernel
theorem dX12_end_16 : decode cX12_end 16 = .ok (.putfield 73, 3) := by decide +kernel
theorem dX12_end_19 : decode cX12_end 19 = .ok (.iconst 1, 1) := by decide +kernel
theorem dX12_end_20 : decode cX12_end 20 = .ok (.ireturn, 1) := by decide +kernel
theorem dX12_fault_0 : decode cX12_fault 0 = .ok (.iload_n 1, 1) := by decide +kernel
theorem dX12_fault_1 : decode cX12_fault 1 = .ok (.ifCond .ne 11, 3) := by decide +kernel
theorem dX12_fault_4 : decode cX12_fault 4 = .ok (.aload_n 0, 1) := by decide +kernel
theorem dX12_fault_5 : decode cX12_fault 5 = .ok (.getfield 16, 3) := by decide +kernel
theorem dX12_fault_8 : decode cX12_fault 8 = .ok (.getfield 113, 3) := by decide +kernel
theorem dX12_fault_11 : decode cX12_fault 11 = .ok (.ireturn, 1) := by decide +kernel
theorem dX12_fault_12 : decode cX12_fault 12 = .ok (.iload_n 1, 1) := by decide +kernel
theorem dX12_fault_13 : decode cX12_fault 13 = .ok (.iconst 1, 1) := by decide +kernel
theorem dX12_fault_14 : decode cX12_fault 14 = .ok (.if_icmp .ne 23, 3) := by decide +kernel
theorem dX12_fault_17 : decode cX12_fault 17 = .ok (.aload_n 0, 1) := by decide +kernel
theorem dX12_fault_18 : decode cX12_fault 18 = .ok (.getfield 16, 3) := by decide +kernel
theorem dX12_fault_21 : decode cX12_fault 21 = .ok (.getfield 113, 3) := by decide +kernel
theorem dX12_fault_24 : decode cX12_fault 24 = .ok (.ifCond .eq 13, 3) := by decide +kernel
theorem dX12_fault_27 : decode cX12_fault 27 = .ok (.aload_n 0, 1) := by decide +kernel
theorem dX12_fault_28 : decode cX12_fault 28 = .ok (.getfield 16, 3) := by decide +kernel
theorem dX12_fault_31 : decode cX12_fault 31 = .ok (.getfield 143, 3) := by decide +kernel
theorem dX12_fault_34 : decode cX12_fault 34 = .ok (.goto 4, 3) := by decide +kernel
theorem dX12_fault_37 : decode cX12_fault 37 = .ok (.iconst (-1), 1) := by decide +kernel
theorem dX12_fault_38 : decode cX12_fault 38 = .ok (.ireturn, 1) := by decide +kernel
theorem dX12_where_0 : decode cX12_where 0 = .ok (.iload_n 1, 1) := by decide +kernel
theorem dX12_where_1 : decode cX12_where 1 = .ok (.tableswitch 51 0 2 #[27, 35, 43], 27) := by decide +kernel
theorem dX12_where_28 : decode cX12_where 28 = .ok (.aload_n 0, 1) := by decide +kernel
theorem dX12_where_29 : decode cX12_where 29 = .ok (.getfield 62, 3) := by decide +kernel
theorem dX12_where_32 : decode cX12_where 32 = .ok (.getfield 172, 3) := by decide +kernel
theorem dX12_where_35 : decode cX12_where 35 = .ok (.ireturn, 1) := by decide +kernel
theorem dX12_where_36 : decode cX12_where 36 = .ok (.aload_n 0, 1) := by decide +kernel
theorem dX12_where_37 : decode cX12_where 37 = .ok (.getfield 62, 3) := by decide +kernel
theorem dX12_where_40 : decode cX12_where 40 = .ok (.getfield 175, 3) := by decide +kernel
theorem dX12_where_43 : decode cX12_where 43 = .ok (.ireturn, 1) := by decide +kernel
theorem dX12_where_44 : decode cX12_where 44 = .ok (.aload_n 0, 1) := by decide +kernel
theorem dX12_where_45 : decode cX12_where 45 = .ok (.getfield 62, 3) := by decide +kernel
theorem dX12_where_48 : decode cX12_where 48 = .ok (.getfield 178, 3) := by decide +kernel
theorem dX12_where_51 : decode cX12_where 51 = .ok (.ireturn, 1) := by decide +kernel
theorem dX12_where_52 : decode cX12_where 52 = .ok (.iconst (-1), 1) := by decide +kernel
theorem dX12_where_53 : decode cX12_where 53 = .ok (.ireturn, 1) := by decide +kernel
theorem dX13_lay_0 : decode cX13_lay 0 = .ok (.bipush 24, 2) := by decide +kernel
theorem dX13_lay_2 : decode cX13_lay 2 = .ok (.istore_n 2, 1) := by decide +kernel
theorem dX13_lay_3 : decode cX13_lay 3 = .ok (.iload_n 2, 1) := by decide +kernel
theorem dX13_lay_4 : decode cX13_lay 4 = .ok (.ifCond .lt 35, 3) := by decide +kernel
theorem dX13_lay_7 : decode cX13_lay 7 = .ok (.aload_n 0, 1) := by decide +kernel
theorem dX13_lay_8 : decode cX13_lay 8 = .ok (.getfield 9, 3) := by decide +kernel
theorem dX13_lay_11 : decode cX13_lay 11 = .ok (.aload_n 0, 1) := by decide +kernel
theorem dX13_lay_12 : decode cX13_lay 12 = .ok (.getfield 312, 3) := by decide +kernel
theorem dX13_lay_15 : decode cX13_lay 15 = .ok (.iload_n 1, 1) := by decide +kernel
theorem dX13_lay_16 : decode cX13_lay 16 = .ok (.iload_n 2, 1) := by decide +kernel
theorem dX13_lay_17 : decode cX13_lay 17 = .ok (.ishr, 1) := by decide +kernel
theorem dX13_lay_18 : decode cX13_lay 18 = .ok (.sipush 255, 3) := by decide +kernel
theorem dX13_lay_21 : decode cX13_lay 21 = .ok (.iand, 1) := by decide +kernel
theorem dX13_lay_22 : decode cX13_lay 22 = .ok (.iastore, 1) := by decide +kernel
theorem dX13_lay_23 : decode cX13_lay 23 = .ok (.aload_n 0, 1) := by decide +kernel
theorem dX13_lay_24 : decode cX13_lay 24 = .ok (.dup, 1) := by decide +kernel
theorem dX13_lay_25 : decode cX13_lay 25 = .ok (.getfield 312, 3) := by decide +kernel
theorem dX13_lay_28 : decode cX13_lay 28 = .ok (.iconst 1, 1) := by decide +kernel
theorem dX13_lay_29 : decode cX13_lay 29 = .ok (.iadd, 1) := by decide +kernel
theorem dX13_lay_30 : decode cX13_lay 30 = .ok (.putfield 312, 3) := by decide +kernel
theorem dX13_lay_33 : decode cX13_lay 33 = .ok (.iinc 2 (-8), 3) := by decide +kernel
theorem dX13_lay_36 : decode cX13_lay 36 = .ok (.goto (-33), 3) := by decide +kernel
theorem dX13_lay_39 : decode cX13_lay 39 = .ok (.return_, 1) := by decide +kernel
theorem dX13_feed_0 : decode cX13_feed 0 = .ok (.aload_n 0, 1) := by decide +kernel
theorem dX13_feed_1 : decode cX13_feed 1 = .ok (.getfield 312, 3) := by decide +kernel
theorem dX13_feed_4 : decode cX13_feed 4 = .ok (.bipush 20, 2) := by decide +kernel
theorem dX13_feed_6 : decode cX13_feed 6 = .ok (.iadd, 1) := by decide +kernel
theorem dX13_feed_7 : decode cX13_feed 7 = .ok (.sipush 6000, 3) := by decide +kernel
theorem dX13_feed_10 : decode cX13_feed 10 = .ok (.if_icmp .le 5, 3) := by decide +kernel
theorem dX13_feed_13 : decode cX13_feed 13 = .ok (.iconst (-1), 1) := by decide +kernel
theorem dX13_feed_14 : decode cX13_feed 14 = .ok (.ireturn, 1) := by decide +kernel
theorem dX13_feed_15 : decode cX13_feed 15 = .ok (.aload_n 0, 1) := by decide +kernel
theorem dX13_feed_16 : decode cX13_feed 16 = .ok (.iload_n 1, 1) := by decide +kernel
theorem dX13_feed_17 : decode cX13_feed 17 = .ok (.invokevirtual 315, 3) := by decide +kernel
theorem dX13_feed_20 : decode cX13_feed 20 = .ok (.aload_n 0, 1) := by decide +kernel
theorem dX13_feed_21 : decode cX13_feed 21 = .ok (.iload_n 2, 1) := by decide +kernel
theorem dX13_feed_22 : decode cX13_feed 22 = .ok (.invokevirtual 315, 3) := by decide +kernel
theorem dX13_feed_25 : decode cX13_feed 25 = .ok (.aload_n 0, 1) := by decide +kernel
theorem dX13_feed_26 : decode cX13_feed 26 = .ok (.iload_n 3, 1) := by decide +kernel
theorem dX13_feed_27 : decode cX13_feed 27 = .ok (.invokevirtual 315, 3) := by decide +kernel
theorem dX13_feed_30 : decode cX13_feed 30 = .ok (.aload_n 0, 1) := by decide +kernel
theorem dX13_feed_31 : decode cX13_feed 31 = .ok (.iload 4, 2) := by decide +kernel
theorem dX13_feed_33 : decode cX13_feed 33 = .ok (.invokevirtual 315, 3) := by decide +kernel
theorem dX13_feed_36 : decode cX13_feed 36 = .ok (.aload_n 0, 1) := by decide +kernel
theorem dX13_feed_37 : decode cX13_feed 37 = .ok (.iload 5, 2) := by decide +kernel
theorem dX13_feed_39 : decode cX13_feed 39 = .ok (.invokevirtual 315, 3) := by decide +kernel
theorem dX13_feed_42 : decode cX13_feed 42 = .ok (.aload_n 0, 1) := by decide +kernel
theorem dX13_feed_43 : decode cX13_feed 43 = .ok (.getfield 312, 3) := by decide +kernel
theorem dX13_feed_46 : decode cX13_feed 46 = .ok (.ireturn, 1) := by decide +kernel
theorem dX13_end_0 : decode cX13_end 0 = .ok (.iload_n 1, 1) := by decide +kernel
theorem dX13_end_1 : decode cX13_end 1 = .ok (.ifCond .lt 11, 3) := by decide +kernel
theorem dX13_end_4 : decode cX13_end 4 = .ok (.iload_n 1, 1) := by decide +kernel
theorem dX13_end_5 : decode cX13_end 5 = .ok (.aload_n 0, 1) := by decide +kernel
theorem dX13_end_6 : decode cX13_end 6 = .ok (.getfield 312, 3) := by decide +kernel
theorem dX13_end_9 : decode cX13_end 9 = .ok (.if_icmp .le 5, 3) := by decide +kernel
theorem dX13_end_12 : decode cX13_end 12 = .ok (.iconst 0, 1) := by decide +kernel
theorem dX13_end_13 : decode cX13_end 13 = .ok (.ireturn, 1) := by decide +kernel
theorem dX13_end_14 : decode cX13_end 14 = .ok (.aload_n 0, 1) := by decide +kernel
theorem dX13_end_15 : decode cX13_end 15 = .ok (.iload_n 1, 1) := by decide +kernel
theorem dX13_end_16 : decode cX13_end 16 = .ok (.putfield 312, 3) := by decide +kernel
theorem dX13_end_19 : decode cX13_end 19 = .ok (.iconst 1, 1) := by decide +kernel
theorem dX13_end_20 : decode cX13_end 20 = .ok (.ireturn, 1) := by decide +kernel
theorem dX13_fault_0 : decode cX13_fault 0 = .ok (.iload_n 1, 1) := by decide +kernel
theorem dX13_fault_1 : decode cX13_fault 1 = .ok (.ifCond .ne 10, 3) := by decide +kernel
theorem dX13_fault_4 : decode cX13_fault 4 = .ok (.aload_n 0, 1) := by decide +kernel
theorem dX13_fault_5 : decode cX13_fault 5 = .ok (.getfield 319, 3) := by decide +kernel
theorem dX13_fault_8 : decode cX13_fault 8 = .ok (.goto 23, 3) := by decide +kernel
theorem dX13_fault_11 : decode cX13_fault 11 = .ok (.iload_n 1, 1) := by decide +kernel
theorem dX13_fault_12 : decode cX13_fault 12 = .ok (.iconst 1, 1) := by decide +kernel
theorem dX13_fault_13 : decode cX13_fault 13 = .ok (.if_icmp .ne 17, 3) := by decide +kernel
theorem dX13_fault_16 : decode cX13_fault 16 = .ok (.aload_n 0, 1) := by decide +kernel
theorem dX13_fault_17 : decode cX13_fault 17 = .ok (.getfield 319, 3) := by decide +kernel
theorem dX13_fault_20 : decode cX13_fault 20 = .ok (.ifCond .le 10, 3) := by decide +kernel
theorem dX13_fault_23 : decode cX13_fault 23 = .ok (.aload_n 0, 1) := by decide +kernel
theorem dX13_fault_24 : decode cX13_fault 24 = .ok (.getfield 322, 3) := by decide +kernel
theorem dX13_fault_27 : decode cX13_fault 27 = .ok (.goto 4, 3) := by decide +kernel
theorem dX13_fault_30 : decode cX13_fault 30 = .ok (.iconst (-1), 1) := by decide +kernel
theorem dX13_fault_31 : decode cX13_fault 31 = .ok (.ireturn, 1) := by decide +kernel
theorem dX13_where_0 : decode cX13_where 0 = .ok (.iload_n 1, 1) := by decide +kernel
theorem dX13_where_1 : decode cX13_where 1 = .ok (.ifCond .ne 10, 3) := by decide +kernel
theorem dX13_where_4 : decode cX13_where 4 = .ok (.aload_n 0, 1) := by decide +kernel
theorem dX13_where_5 : decode cX13_where 5 = .ok (.getfield 257, 3) := by decide +kernel
theorem dX13_where_8 : decode cX13_where 8 = .ok (.goto 28, 3) := by decide +kernel
theorem dX13_where_11 : decode cX13_where 11 = .ok (.iload_n 1, 1) := by decide +kernel
theorem dX13_where_12 : decode cX13_where 12 = .ok (.iconst 1, 1) := by decide +kernel
theorem dX13_where_13 : decode cX13_where 13 = .ok (.if_icmp .ne 10, 3) := by decide +kernel
theorem dX13_where_16 : decode cX13_where 16 = .ok (.aload_n 0, 1) := by decide +kernel
theorem dX13_where_17 : decode cX13_where 17 = .ok (.getfield 261, 3) := by decide +kernel
theorem dX13_where_20 : decode cX13_where 20 = .ok (.goto 16, 3) := by decide +kernel
theorem dX13_where_23 : decode cX13_where 23 = .ok (.iload_n 1, 1) := by decide +kernel
theorem dX13_where_24 : decode cX13_where 24 = .ok (.iconst 2, 1) := by decide +kernel
theorem dX13_where_25 : decode cX13_where 25 = .ok (.if_icmp .ne 10, 3) := by decide +kernel
theorem dX13_where_28 : decode cX13_where 28 = .ok (.aload_n 0, 1) := by decide +kernel
theorem dX13_where_29 : decode cX13_where 29 = .ok (.getfield 264, 3) := by decide +kernel
theorem dX13_where_32 : decode cX13_where 32 = .ok (.goto 4, 3) := by decide +kernel
theorem dX13_where_35 : decode cX13_where 35 = .ok (.iconst (-1), 1) := by decide +kernel
theorem dX13_where_36 : decode cX13_where 36 = .ok (.ireturn, 1) := by decide +kernel
theorem vs_in4 {VS : List Cond} {a b c d : Cond} (ha : a ∈ VS) (hb : b ∈ VS) (hc : c ∈ VS) (hd : d ∈ VS) (h : [a, b, c, d].all goodWord = true) : GoodIn VS [a, b, c, d] := goodIn_sub (fun w hw => by
  rcases List.mem_cons.mp hw with q | hw
  · rw [q]; exact ha
  rcases List.mem_cons.mp hw with q | hw
  · rw [q]; exact hb
  rcases List.mem_cons.mp hw with q | hw
  · rw [q]; exact hc
  rcases List.mem_cons.mp hw with q | hw
  · rw [q]; exact hd
  exact absurd hw List.not_mem_nil) h
theorem vs_in3 {VS : List Cond} {a b c : Cond} (ha : a ∈ VS) (hb : b ∈ VS) (hc : c ∈ VS) (h : [a, b, c].all goodWord = true) : GoodIn VS [a, b, c] := goodIn_sub (fun w hw => by
  rcases List.mem_cons.mp hw with q | hw
  · rw [q]; exact ha
  rcases List.mem_cons.mp hw with q | hw
  · rw [q]; exact hb
  rcases List.mem_cons.mp hw with q | hw
  · rw [q]; exact hc
  exact absurd hw List.not_mem_nil) h
theorem vs_cons {VS L : List Cond} {a : Cond} (ha : a ∈ VS) (h : goodWord a = true) (hL : GoodIn VS L) : GoodIn VS (a :: L) := fun w hw => (List.mem_cons.mp hw).elim (fun q => q ▸ ⟨ha, good_of_word h⟩) (hL w)
theorem vs_self {VS : List Cond} (h : VS.all goodWord = true) : GoodIn VS VS := goodIn_sub (fun _ h => h) h
def VS_g1_p0 : List Cond := [Cond.fieldLink RX12 73 "ClassMill" "taped" "I", Cond.fieldLink RX12 9 "ClassMill" "tape" "[B", Cond.code yX12_putNumber cX12_putNumber 3 none, Cond.methodLink RX12 77 yX12_putNumber, Cond.instanceMethod yX12_putNumber, Cond.selects RX12 yX12_putNumber yX12_putNumber, Cond.initialized RX12, Cond.fieldLink RX12 16 "ClassMill" "text" "LClassMill$Text;", Cond.fieldLink RX12 113 "ClassMill$Text" "fault" "I", Cond.fieldLink RX12 143 "ClassMill$Text" "place" "I", Cond.fieldLink RX12 62 "ClassMill" "verifier" "LClassMill$Verifier;", Cond.fieldLink RX12 172 "ClassMill$Verifier" "toldClass" "I", Cond.fieldLink RX12 175 "ClassMill$Verifier" "toldMethod" "I", Cond.fieldLink RX12 178 "ClassMill$Verifier" "toldPlace" "I", Cond.fieldLink RX13 9 "ClassMillModel" "tape" "[I", Cond.fieldLink RX13 312 "ClassMillModel" "taped" "I", Cond.code yX13_lay cX13_lay 3 none, Cond.methodLink RX13 315 yX13_lay, Cond.instanceMethod yX13_lay, Cond.selects RX13 yX13_lay yX13_lay, Cond.initialized RX13, Cond.fieldLink RX13 319 "ClassMillModel" "fault" "I", Cond.fieldLink RX13 322 "ClassMillModel" "place" "I", Cond.fieldLink RX13 264 "ClassMillModel" "whyPlace" "I", Cond.fieldLink RX13 261 "ClassMillModel" "whyMethod" "I", Cond.fieldLink RX13 257 "ClassMillModel" "whyClass" "I"]
def VS_g1 : List Cond := VS_g1_p0 ++ (wsX120 ++ (wsX90 ++ (wsX110 ++ (wsX130))))
theorem mw_g1_0 : Cond.fieldLink RX12 73 "ClassMill" "taped" "I" ∈ VS_g1 := List.mem_append_left _ (List.mem_of_getElem? (i := 0) rfl)
theorem mw_g1_1 : Cond.fieldLink RX12 9 "ClassMill" "tape" "[B" ∈ VS_g1 := List.mem_append_left _ (List.mem_of_getElem? (i := 1) rfl)
theorem mw_g1_2 : Cond.code yX12_putNumber cX12_putNumber 3 none ∈ VS_g1 := List.mem_append_left _ (List.mem_of_getElem? (i := 2) rfl)
theorem mw_g1_3 : Cond.methodLink RX12 77 yX12_putNumber ∈ VS_g1 := List.mem_append_left _ (List.mem_of_getElem? (i := 3) rfl)
theorem mw_g1_4 : Cond.instanceMethod yX12_putNumber ∈ VS_g1 := List.mem_append_left _ (List.mem_of_getElem? (i := 4) rfl)
theorem mw_g1_5 : Cond.selects RX12 yX12_putNumber yX12_putNumber ∈ VS_g1 := List.mem_append_left _ (List.mem_of_getElem? (i := 5) rfl)
theorem mw_g1_6 : Cond.initialized RX12 ∈ VS_g1 := List.mem_append_left _ (List.mem_of_getElem? (i := 6) rfl)
theorem mw_g1_7 : Cond.fieldLink RX12 16 "ClassMill" "text" "LClassMill$Text;" ∈ VS_g1 := List.mem_append_left _ (List.mem_of_getElem? (i := 7) rfl)
theorem mw_g1_8 : Cond.fieldLink RX12 113 "ClassMill$Text" "fault" "I" ∈ VS_g1 := List.mem_append_left _ (List.mem_of_getElem? (i := 8) rfl)
theorem mw_g1_9 : Cond.fieldLink RX12 143 "ClassMill$Text" "place" "I" ∈ VS_g1 := List.mem_append_left _ (List.mem_of_getElem? (i := 9) rfl)
theorem mw_g1_10 : Cond.fieldLink RX12 62 "ClassMill" "verifier" "LClassMill$Verifier;" ∈ VS_g1 := List.mem_append_left _ (List.mem_of_getElem? (i := 10) rfl)
theorem mw_g1_11 : Cond.fieldLink RX12 172 "ClassMill$Verifier" "toldClass" "I" ∈ VS_g1 := List.mem_append_left _ (List.mem_of_getElem? (i := 11) rfl)
theorem mw_g1_12 : Cond.fieldLink RX12 175 "ClassMill$Verifier" "toldMethod" "I" ∈ VS_g1 := List.mem_append_left _ (List.mem_of_getElem? (i := 12) rfl)
theorem mw_g1_13 : Cond.fieldLink RX12 178 "ClassMill$Verifier" "toldPlace" "I" ∈ VS_g1 := List.mem_append_left _ (List.mem_of_getElem? (i := 13) rfl)
theorem mw_g1_14 : Cond.fieldLink RX13 9 "ClassMillModel" "tape" "[I" ∈ VS_g1 := List.mem_append_left _ (List.mem_of_getElem? (i := 14) rfl)
theorem mw_g1_15 : Cond.fieldLink RX13 312 "ClassMillModel" "taped" "I" ∈ VS_g1 := List.mem_append_left _ (List.mem_of_getElem? (i := 15) rfl)
theorem mw_g1_16 : Cond.code yX13_lay cX13_lay 3 none ∈ VS_g1 := List.mem_append_left _ (List.mem_of_getElem? (i := 16) rfl)
theorem mw_g1_17 : Cond.methodLink RX13 315 yX13_lay ∈ VS_g1 := List.mem_append_left _ (List.mem_of_getElem? (i := 17) rfl)
theorem mw_g1_18 : Cond.instanceMethod yX13_lay ∈ VS_g1 := List.mem_append_left _ (List.mem_of_getElem? (i := 18) rfl)
theorem mw_g1_19 : Cond.selects RX13 yX13_lay yX13_lay ∈ VS_g1 := List.mem_append_left _ (List.mem_of_getElem? (i := 19) rfl)
theorem mw_g1_20 : Cond.initialized RX13 ∈ VS_g1 := List.mem_append_left _ (List.mem_of_getElem? (i := 20) rfl)
theorem mw_g1_21 : Cond.fieldLink RX13 319 "ClassMillModel" "fault" "I" ∈ VS_g1 := List.mem_append_left _ (List.mem_of_getElem? (i := 21) rfl)
theorem mw_g1_22 : Cond.fieldLink RX13 322 "ClassMillModel" "place" "I" ∈ VS_g1 := List.mem_append_left _ (List.mem_of_getElem? (i := 22) rfl)
theorem mw_g1_23 : Cond.fieldLink RX13 264 "ClassMillModel" "whyPlace" "I" ∈ VS_g1 := List.mem_append_left _ (List.mem_of_getElem? (i := 23) rfl)
theorem mw_g1_24 : Cond.fieldLink RX13 261 "ClassMillModel" "whyMethod" "I" ∈ VS_g1 := List.mem_append_left _ (List.mem_of_getElem? (i := 24) rfl)
theorem mw_g1_25 : Cond.fieldLink RX13 257 "ClassMillModel" "whyClass" "I" ∈ VS_g1 := List.mem_append_left _ (List.mem_of_getElem? (i := 25) rfl)
theorem uV_g1_X12 : ∀ w ∈ u_ws RX12 TX12 11, w ∈ VS_g1 := fun w h => List.mem_append_right _ (List.mem_append_left _ (h))
theorem uV_g1_X9 : ∀ w ∈ u_ws RX9 TX9 13, w ∈ VS_g1 := fun w h => List.mem_append_right _ (List.mem_append_right _ (List.mem_append_left _ (h)))
theorem uV_g1_X11 : ∀ w ∈ u_ws RX11 TX11 21, w ∈ VS_g1 := fun w h => List.mem_append_right _ (List.mem_append_right _ (List.mem_append_right _ (List.mem_append_left _ (h))))
theorem uV_g1_X13 : ∀ w ∈ u_ws RX13 TX13 155, w ∈ VS_g1 := fun w h => List.mem_append_right _ (List.mem_append_right _ (List.mem_append_right _ (List.mem_append_right _ (h))))
set_option maxRecDepth 100000 in
theorem gs_g1 : GoodIn VS_g1 VS_g1 := vs_self (by decide +kernel)
theorem gv_g1_0 : GoodIn VS_g1 (wsV RX12 77 RX12 yX12_putNumber (.code yX12_putNumber cX12_putNumber 3 none :: VS_g1)) := goodIn_app (vs_in4 mw_g1_3 mw_g1_4 mw_g1_5 mw_g1_6 (by decide +kernel)) (vs_cons mw_g1_2 (by decide +kernel) gs_g1)
theorem gv_g1_1 : GoodIn VS_g1 (wsV RX13 315 RX13 yX13_lay (.code yX13_lay cX13_lay 3 none :: VS_g1)) := goodIn_app (vs_in4 mw_g1_17 mw_g1_18 mw_g1_19 mw_g1_20 (by decide +kernel)) (vs_cons mw_g1_16 (by decide +kernel) gs_g1)
