theorem mt_X13_enter : mx_mt 570 = some (yX13_enter, cX13_enter, 4, none) := rfl
theorem dX13_enter_0 : decode cX13_enter 0 = .ok (.aload_n 0, 1) := by decide +kernel
theorem dX13_enter_1 : decode cX13_enter 1 = .ok (.getfield 294, 3) := by decide +kernel
theorem dX13_enter_4 : decode cX13_enter 4 = .ok (.aload_n 0, 1) := by decide +kernel
theorem dX13_enter_5 : decode cX13_enter 5 = .ok (.getfield 1058, 3) := by decide +kernel
theorem dX13_enter_8 : decode cX13_enter 8 = .ok (.iload_n 1, 1) := by decide +kernel
theorem dX13_enter_9 : decode cX13_enter 9 = .ok (.iastore, 1) := by decide +kernel
theorem dX13_enter_10 : decode cX13_enter 10 = .ok (.aload_n 0, 1) := by decide +kernel
theorem dX13_enter_11 : decode cX13_enter 11 = .ok (.getfield 297, 3) := by decide +kernel
theorem dX13_enter_14 : decode cX13_enter 14 = .ok (.aload_n 0, 1) := by decide +kernel
theorem dX13_enter_15 : decode cX13_enter 15 = .ok (.getfield 1058, 3) := by decide +kernel
theorem dX13_enter_18 : decode cX13_enter 18 = .ok (.iload_n 2, 1) := by decide +kernel
theorem dX13_enter_19 : decode cX13_enter 19 = .ok (.iastore, 1) := by decide +kernel
theorem dX13_enter_20 : decode cX13_enter 20 = .ok (.aload_n 0, 1) := by decide +kernel
theorem dX13_enter_21 : decode cX13_enter 21 = .ok (.getfield 300, 3) := by decide +kernel
theorem dX13_enter_24 : decode cX13_enter 24 = .ok (.aload_n 0, 1) := by decide +kernel
theorem dX13_enter_25 : decode cX13_enter 25 = .ok (.getfield 1058, 3) := by decide +kernel
theorem dX13_enter_28 : decode cX13_enter 28 = .ok (.iconst 0, 1) := by decide +kernel
theorem dX13_enter_29 : decode cX13_enter 29 = .ok (.iastore, 1) := by decide +kernel
theorem dX13_enter_30 : decode cX13_enter 30 = .ok (.aload_n 0, 1) := by decide +kernel
theorem dX13_enter_31 : decode cX13_enter 31 = .ok (.getfield 303, 3) := by decide +kernel
theorem dX13_enter_34 : decode cX13_enter 34 = .ok (.aload_n 0, 1) := by decide +kernel
theorem dX13_enter_35 : decode cX13_enter 35 = .ok (.getfield 1058, 3) := by decide +kernel
theorem dX13_enter_38 : decode cX13_enter 38 = .ok (.iconst 0, 1) := by decide +kernel
theorem dX13_enter_39 : decode cX13_enter 39 = .ok (.iastore, 1) := by decide +kernel
theorem dX13_enter_40 : decode cX13_enter 40 = .ok (.iconst 0, 1) := by decide +kernel
theorem dX13_enter_41 : decode cX13_enter 41 = .ok (.istore_n 3, 1) := by decide +kernel
theorem dX13_enter_42 : decode cX13_enter 42 = .ok (.iload_n 3, 1) := by decide +kernel
theorem dX13_enter_43 : decode cX13_enter 43 = .ok (.bipush 60, 2) := by decide +kernel
theorem dX13_enter_45 : decode cX13_enter 45 = .ok (.if_icmp .ge 24, 3) := by decide +kernel
theorem dX13_enter_48 : decode cX13_enter 48 = .ok (.aload_n 0, 1) := by decide +kernel
theorem dX13_enter_49 : decode cX13_enter 49 = .ok (.getfield 306, 3) := by decide +kernel
theorem dX13_enter_52 : decode cX13_enter 52 = .ok (.bipush 60, 2) := by decide +kernel
theorem dX13_enter_54 : decode cX13_enter 54 = .ok (.aload_n 0, 1) := by decide +kernel
theorem dX13_enter_55 : decode cX13_enter 55 = .ok (.getfield 1058, 3) := by decide +kernel
theorem dX13_enter_58 : decode cX13_enter 58 = .ok (.imul, 1) := by decide +kernel
theorem dX13_enter_59 : decode cX13_enter 59 = .ok (.iload_n 3, 1) := by decide +kernel
theorem dX13_enter_60 : decode cX13_enter 60 = .ok (.iadd, 1) := by decide +kernel
theorem dX13_enter_61 : decode cX13_enter 61 = .ok (.iconst 0, 1) := by decide +kernel
theorem dX13_enter_62 : decode cX13_enter 62 = .ok (.iastore, 1) := by decide +kernel
theorem dX13_enter_63 : decode cX13_enter 63 = .ok (.iinc 3 1, 3) := by decide +kernel
theorem dX13_enter_66 : decode cX13_enter 66 = .ok (.goto (-24), 3) := by decide +kernel
theorem dX13_enter_69 : decode cX13_enter 69 = .ok (.aload_n 0, 1) := by decide +kernel
theorem dX13_enter_70 : decode cX13_enter 70 = .ok (.dup, 1) := by decide +kernel
theorem dX13_enter_71 : decode cX13_enter 71 = .ok (.getfield 1058, 3) := by decide +kernel
theorem dX13_enter_74 : decode cX13_enter 74 = .ok (.iconst 1, 1) := by decide +kernel
theorem dX13_enter_75 : decode cX13_enter 75 = .ok (.iadd, 1) := by decide +kernel
theorem dX13_enter_76 : decode cX13_enter 76 = .ok (.putfield 1058, 3) := by decide +kernel
theorem dX13_enter_79 : decode cX13_enter 79 = .ok (.return_, 1) := by decide +kernel
theorem ft_13_141 : mx_fty 13 141 = some (.int, false, "ClassMillModel") := by decide +kernel
theorem ft_13_142 : mx_fty 13 142 = some (.int, false, "ClassMillModel") := by decide +kernel
theorem mt_X13_make_ : mx_mt 574 = some (yX13_make_, cX13_make_, 4, (some .int)) := rfl
theorem dX13_make__0 : decode cX13_make_ 0 = .ok (.aload_n 0, 1) := by decide +kernel
theorem dX13_make__1 : decode cX13_make_ 1 = .ok (.getfield 1049, 3) := by decide +kernel
theorem dX13_make__4 : decode cX13_make_ 4 = .ok (.sipush 2000, 3) := by decide +kernel
theorem dX13_make__7 : decode cX13_make_ 7 = .ok (.if_icmp .eq 15, 3) := by decide +kernel
theorem dX13_make__10 : decode cX13_make_ 10 = .ok (.iload_n 2, 1) := by decide +kernel
theorem dX13_make__11 : decode cX13_make_ 11 = .ok (.sipush 20000, 3) := by decide +kernel
theorem dX13_make__14 : decode cX13_make_ 14 = .ok (.aload_n 0, 1) := by decide +kernel
theorem dX13_make__15 : decode cX13_make_ 15 = .ok (.getfield 1052, 3) := by decide +kernel
theorem dX13_make__18 : decode cX13_make_ 18 = .ok (.isub, 1) := by decide +kernel
theorem dX13_make__19 : decode cX13_make_ 19 = .ok (.if_icmp .le 10, 3) := by decide +kernel
theorem dX13_make__22 : decode cX13_make_ 22 = .ok (.aload_n 0, 1) := by decide +kernel
theorem dX13_make__23 : decode cX13_make_ 23 = .ok (.iconst 4, 1) := by decide +kernel
theorem dX13_make__24 : decode cX13_make_ 24 = .ok (.putfield 858, 3) := by decide +kernel
theorem dX13_make__27 : decode cX13_make_ 27 = .ok (.iconst 0, 1) := by decide +kernel
theorem dX13_make__28 : decode cX13_make_ 28 = .ok (.ireturn, 1) := by decide +kernel
theorem dX13_make__29 : decode cX13_make_ 29 = .ok (.aload_n 0, 1) := by decide +kernel
theorem dX13_make__30 : decode cX13_make_ 30 = .ok (.dup, 1) := by decide +kernel
theorem dX13_make__31 : decode cX13_make_ 31 = .ok (.getfield 1049, 3) := by decide +kernel
theorem dX13_make__34 : decode cX13_make_ 34 = .ok (.iconst 1, 1) := by decide +kernel
theorem dX13_make__35 : decode cX13_make_ 35 = .ok (.iadd, 1) := by decide +kernel
theorem dX13_make__36 : decode cX13_make_ 36 = .ok (.putfield 1049, 3) := by decide +kernel
theorem dX13_make__39 : decode cX13_make_ 39 = .ok (.aload_n 0, 1) := by decide +kernel
theorem dX13_make__40 : decode cX13_make_ 40 = .ok (.getfield 279, 3) := by decide +kernel
theorem dX13_make__43 : decode cX13_make_ 43 = .ok (.aload_n 0, 1) := by decide +kernel
theorem dX13_make__44 : decode cX13_make_ 44 = .ok (.getfield 1049, 3) := by decide +kernel
theorem dX13_make__47 : decode cX13_make_ 47 = .ok (.iload_n 1, 1) := by decide +kernel
theorem dX13_make__48 : decode cX13_make_ 48 = .ok (.iastore, 1) := by decide +kernel
theorem dX13_make__49 : decode cX13_make_ 49 = .ok (.aload_n 0, 1) := by decide +kernel
theorem dX13_make__50 : decode cX13_make_ 50 = .ok (.getfield 282, 3) := by decide +kernel
theorem dX13_make__53 : decode cX13_make_ 53 = .ok (.aload_n 0, 1) := by decide +kernel
theorem dX13_make__54 : decode cX13_make_ 54 = .ok (.getfield 1049, 3) := by decide +kernel
theorem dX13_make__57 : decode cX13_make_ 57 = .ok (.aload_n 0, 1) := by decide +kernel
theorem dX13_make__58 : decode cX13_make_ 58 = .ok (.getfield 1052, 3) := by decide +kernel
theorem dX13_make__61 : decode cX13_make_ 61 = .ok (.iastore, 1) := by decide +kernel
theorem dX13_make__62 : decode cX13_make_ 62 = .ok (.aload_n 0, 1) := by decide +kernel
theorem dX13_make__63 : decode cX13_make_ 63 = .ok (.getfield 285, 3) := by decide +kernel
theorem dX13_make__66 : decode cX13_make_ 66 = .ok (.aload_n 0, 1) := by decide +kernel
theorem dX13_make__67 : decode cX13_make_ 67 = .ok (.getfield 1049, 3) := by decide +kernel
theorem dX13_make__70 : decode cX13_make_ 70 = .ok (.iload_n 2, 1) := by decide +kernel
theorem dX13_make__71 : decode cX13_make_ 71 = .ok (.iastore, 1) := by decide +kernel
theorem dX13_make__72 : decode cX13_make_ 72 = .ok (.iconst 0, 1) := by decide +kernel
theorem dX13_make__73 : decode cX13_make_ 73 = .ok (.istore_n 3, 1) := by decide +kernel
theorem dX13_make__74 : decode cX13_make_ 74 = .ok (.iload_n 3, 1) := by decide +kernel
theorem dX13_make__75 : decode cX13_make_ 75 = .ok (.iload_n 2, 1) := by decide +kernel
theorem dX13_make__76 : decode cX13_make_ 76 = .ok (.if_icmp .ge 21, 3) := by decide +kernel
theorem dX13_make__79 : decode cX13_make_ 79 = .ok (.aload_n 0, 1) := by decide +kernel
theorem dX13_make__80 : decode cX13_make_ 80 = .ok (.getfield 288, 3) := by decide +kernel
theorem dX13_make__83 : decode cX13_make_ 83 = .ok (.aload_n 0, 1) := by decide +kernel
theorem dX13_make__84 : decode cX13_make_ 84 = .ok (.getfield 1052, 3) := by decide +kernel
theorem dX13_make__87 : decode cX13_make_ 87 = .ok (.iload_n 3, 1) := by decide +kernel
theorem dX13_make__88 : decode cX13_make_ 88 = .ok (.iadd, 1) := by decide +kernel
theorem dX13_make__89 : decode cX13_make_ 89 = .ok (.iconst 0, 1) := by decide +kernel
theorem dX13_make__90 : decode cX13_make_ 90 = .ok (.iastore, 1) := by decide +kernel
theorem dX13_make__91 : decode cX13_make_ 91 = .ok (.iinc 3 1, 3) := by decide +kernel
theorem dX13_make__94 : decode cX13_make_ 94 = .ok (.goto (-20), 3) := by decide +kernel
theorem dX13_make__97 : decode cX13_make_ 97 = .ok (.aload_n 0, 1) := by decide +kernel
theorem dX13_make__98 : decode cX13_make_ 98 = .ok (.dup, 1) := by decide +kernel
theorem dX13_make__99 : decode cX13_make_ 99 = .ok (.getfield 1052, 3) := by decide +kernel
theorem dX13_make__102 : decode cX13_make_ 102 = .ok (.iload_n 2, 1) := by decide +kernel
theorem dX13_make__103 : decode cX13_make_ 103 = .ok (.iadd, 1) := by decide +kernel
theorem dX13_make__104 : decode cX13_make_ 104 = .ok (.putfield 1052, 3) := by decide +kernel
theorem dX13_make__107 : decode cX13_make_ 107 = .ok (.aload_n 0, 1) := by decide +kernel
theorem dX13_make__108 : decode cX13_make_ 108 = .ok (.getfield 1049, 3) := by decide +kernel
theorem dX13_make__111 : decode cX13_make_ 111 = .ok (.ireturn, 1) := by decide +kernel
theorem mt_X13_superOf : mx_mt 523 = some (yX13_superOf, cX13_superOf, 2, (some .int)) := rfl
theorem dX13_superOf_0 : decode cX13_superOf 0 = .ok (.iload_n 1, 1) := by decide +kernel
theorem dX13_superOf_1 : decode cX13_superOf 1 = .ok (.bipush 8, 2) := by decide +kernel
theorem dX13_superOf_3 : decode cX13_superOf 3 = .ok (.if_icmp .ge 22, 3) := by decide +kernel
theorem dX13_superOf_6 : decode cX13_superOf 6 = .ok (.iload_n 1, 1) := by decide +kernel
theorem dX13_superOf_7 : decode cX13_superOf 7 = .ok (.ifCond .ne 7, 3) := by decide +kernel
theorem dX13_superOf_10 : decode cX13_superOf 10 = .ok (.iconst (-1), 1) := by decide +kernel
theorem dX13_superOf_11 : decode cX13_superOf 11 = .ok (.goto 13, 3) := by decide +kernel
theorem dX13_superOf_14 : decode cX13_superOf 14 = .ok (.iload_n 1, 1) := by decide +kernel
theorem dX13_superOf_15 : decode cX13_superOf 15 = .ok (.iconst 1, 1) := by decide +kernel
theorem dX13_superOf_16 : decode cX13_superOf 16 = .ok (.if_icmp .ne 7, 3) := by decide +kernel
theorem dX13_superOf_19 : decode cX13_superOf 19 = .ok (.iconst 0, 1) := by decide +kernel
theorem dX13_superOf_20 : decode cX13_superOf 20 = .ok (.goto 4, 3) := by decide +kernel
theorem dX13_superOf_23 : decode cX13_superOf 23 = .ok (.iconst 1, 1) := by decide +kernel
theorem dX13_superOf_24 : decode cX13_superOf 24 = .ok (.ireturn, 1) := by decide +kernel
theorem dX13_superOf_25 : decode cX13_superOf 25 = .ok (.aload_n 0, 1) := by decide +kernel
theorem dX13_superOf_26 : decode cX13_superOf 26 = .ok (.iload_n 1, 1) := by decide +kernel
theorem dX13_superOf_27 : decode cX13_superOf 27 = .ok (.bipush 8, 2) := by decide +kernel
theorem dX13_superOf_29 : decode cX13_superOf 29 = .ok (.isub, 1) := by decide +kernel
theorem dX13_superOf_30 : decode cX13_superOf 30 = .ok (.aload_n 0, 1) := by decide +kernel
theorem dX13_superOf_31 : decode cX13_superOf 31 = .ok (.iload_n 1, 1) := by decide +kernel
theorem dX13_superOf_32 : decode cX13_superOf 32 = .ok (.bipush 8, 2) := by decide +kernel
theorem dX13_superOf_34 : decode cX13_superOf 34 = .ok (.isub, 1) := by decide +kernel
theorem dX13_superOf_35 : decode cX13_superOf 35 = .ok (.aload_n 0, 1) := by decide +kernel
theorem dX13_superOf_36 : decode cX13_superOf 36 = .ok (.getfield 224, 3) := by decide +kernel
theorem dX13_superOf_39 : decode cX13_superOf 39 = .ok (.iload_n 1, 1) := by decide +kernel
theorem dX13_superOf_40 : decode cX13_superOf 40 = .ok (.bipush 8, 2) := by decide +kernel
theorem dX13_superOf_42 : decode cX13_superOf 42 = .ok (.isub, 1) := by decide +kernel
theorem dX13_superOf_43 : decode cX13_superOf 43 = .ok (.iaload, 1) := by decide +kernel
theorem dX13_superOf_44 : decode cX13_superOf 44 = .ok (.invokevirtual 867, 3) := by decide +kernel
theorem dX13_superOf_47 : decode cX13_superOf 47 = .ok (.invokevirtual 870, 3) := by decide +kernel
theorem dX13_superOf_50 : decode cX13_superOf 50 = .ok (.ireturn, 1) := by decide +kernel
theorem rs_RX13_873 : mx_res RX13 873 = some (1, 523, 1) := by decide +kernel
theorem mt_X13_isUnder : mx_mt 524 = some (yX13_isUnder, cX13_isUnder, 5, (some .boolean)) := rfl
theorem dX13_isUnder_0 : decode cX13_isUnder 0 = .ok (.iload_n 1, 1) := by decide +kernel
theorem dX13_isUnder_1 : decode cX13_isUnder 1 = .ok (.istore_n 3, 1) := by decide +kernel
theorem dX13_isUnder_2 : decode cX13_isUnder 2 = .ok (.iconst 0, 1) := by decide +kernel
theorem dX13_isUnder_3 : decode cX13_isUnder 3 = .ok (.istore 4, 2) := by decide +kernel
theorem dX13_isUnder_5 : decode cX13_isUnder 5 = .ok (.iload 4, 2) := by decide +kernel
theorem dX13_isUnder_7 : decode cX13_isUnder 7 = .ok (.bipush 16, 2) := by decide +kernel
theorem dX13_isUnder_9 : decode cX13_isUnder 9 = .ok (.if_icmp .gt 27, 3) := by decide +kernel
theorem dX13_isUnder_12 : decode cX13_isUnder 12 = .ok (.iload_n 3, 1) := by decide +kernel
theorem dX13_isUnder_13 : decode cX13_isUnder 13 = .ok (.iconst (-1), 1) := by decide +kernel
theorem dX13_isUnder_14 : decode cX13_isUnder 14 = .ok (.if_icmp .eq 22, 3) := by decide +kernel
theorem dX13_isUnder_17 : decode cX13_isUnder 17 = .ok (.iload_n 3, 1) := by decide +kernel
theorem dX13_isUnder_18 : decode cX13_isUnder 18 = .ok (.iload_n 2, 1) := by decide +kernel
theorem dX13_isUnder_19 : decode cX13_isUnder 19 = .ok (.if_icmp .ne 5, 3) := by decide +kernel
theorem dX13_isUnder_22 : decode cX13_isUnder 22 = .ok (.iconst 1, 1) := by decide +kernel
theorem dX13_isUnder_23 : decode cX13_isUnder 23 = .ok (.ireturn, 1) := by decide +kernel
theorem dX13_isUnder_24 : decode cX13_isUnder 24 = .ok (.aload_n 0, 1) := by decide +kernel
theorem dX13_isUnder_25 : decode cX13_isUnder 25 = .ok (.iload_n 3, 1) := by decide +kernel
theorem dX13_isUnder_26 : decode cX13_isUnder 26 = .ok (.invokevirtual 873, 3) := by decide +kernel
theorem dX13_isUnder_29 : decode cX13_isUnder 29 = .ok (.istore_n 3, 1) := by decide +kernel
theorem dX13_isUnder_30 : decode cX13_isUnder 30 = .ok (.iinc 4 1, 3) := by decide +kernel
theorem dX13_isUnder_33 : decode cX13_isUnder 33 = .ok (.goto (-28), 3) := by decide +kernel
theorem dX13_isUnder_36 : decode cX13_isUnder 36 = .ok (.iconst 0, 1) := by decide +kernel
theorem dX13_isUnder_37 : decode cX13_isUnder 37 = .ok (.ireturn, 1) := by decide +kernel
theorem rs_RX13_891 : mx_res RX13 891 = some (1, 524, 2) := by decide +kernel
theorem mt_X13_isOne : mx_mt 575 = some (yX13_isOne, cX13_isOne, 3, (some .boolean)) := rfl
theorem dX13_isOne_0 : decode cX13_isOne 0 = .ok (.aload_n 0, 1) := by decide +kernel
theorem dX13_isOne_1 : decode cX13_isOne 1 = .ok (.getfield 279, 3) := by decide +kernel
theorem dX13_isOne_4 : decode cX13_isOne 4 = .ok (.iload_n 1, 1) := by decide +kernel
theorem dX13_isOne_5 : decode cX13_isOne 5 = .ok (.iaload, 1) := by decide +kernel
theorem dX13_isOne_6 : decode cX13_isOne 6 = .ok (.bipush 99, 2) := by decide +kernel
theorem dX13_isOne_8 : decode cX13_isOne 8 = .ok (.if_icmp .lt 15, 3) := by decide +kernel
theorem dX13_isOne_11 : decode cX13_isOne 11 = .ok (.iload_n 2, 1) := by decide +kernel
theorem dX13_isOne_12 : decode cX13_isOne 12 = .ok (.ifCond .ne 7, 3) := by decide +kernel
theorem dX13_isOne_15 : decode cX13_isOne 15 = .ok (.iconst 1, 1) := by decide +kernel
theorem dX13_isOne_16 : decode cX13_isOne 16 = .ok (.goto 18, 3) := by decide +kernel
theorem dX13_isOne_19 : decode cX13_isOne 19 = .ok (.iconst 0, 1) := by decide +kernel
theorem dX13_isOne_20 : decode cX13_isOne 20 = .ok (.goto 14, 3) := by decide +kernel
theorem dX13_isOne_23 : decode cX13_isOne 23 = .ok (.aload_n 0, 1) := by decide +kernel
theorem dX13_isOne_24 : decode cX13_isOne 24 = .ok (.aload_n 0, 1) := by decide +kernel
theorem dX13_isOne_25 : decode cX13_isOne 25 = .ok (.getfield 279, 3) := by decide +kernel
theorem dX13_isOne_28 : decode cX13_isOne 28 = .ok (.iload_n 1, 1) := by decide +kernel
theorem dX13_isOne_29 : decode cX13_isOne 29 = .ok (.iaload, 1) := by decide +kernel
theorem dX13_isOne_30 : decode cX13_isOne 30 = .ok (.iload_n 2, 1) := by decide +kernel
theorem dX13_isOne_31 : decode cX13_isOne 31 = .ok (.invokevirtual 891, 3) := by decide +kernel
theorem dX13_isOne_34 : decode cX13_isOne 34 = .ok (.ireturn, 1) := by decide +kernel
theorem rs_RX13_1069 : mx_res RX13 1069 = some (1, 575, 2) := by decide +kernel
theorem mt_X13_thrown : mx_mt 577 = some (yX13_thrown, cX13_thrown, 9, none) := rfl
theorem dX13_thrown_0 : decode cX13_thrown 0 = .ok (.aload_n 0, 1) := by decide +kernel
theorem dX13_thrown_1 : decode cX13_thrown 1 = .ok (.getfield 1058, 3) := by decide +kernel
theorem dX13_thrown_4 : decode cX13_thrown 4 = .ok (.ifCond .le 224, 3) := by decide +kernel
theorem dX13_thrown_7 : decode cX13_thrown 7 = .ok (.aload_n 0, 1) := by decide +kernel
theorem dX13_thrown_8 : decode cX13_thrown 8 = .ok (.getfield 1058, 3) := by decide +kernel
theorem dX13_thrown_11 : decode cX13_thrown 11 = .ok (.iconst 1, 1) := by decide +kernel
theorem dX13_thrown_12 : decode cX13_thrown 12 = .ok (.isub, 1) := by decide +kernel
theorem dX13_thrown_13 : decode cX13_thrown 13 = .ok (.istore_n 2, 1) := by decide +kernel
theorem dX13_thrown_14 : decode cX13_thrown 14 = .ok (.aload_n 0, 1) := by decide +kernel
theorem dX13_thrown_15 : decode cX13_thrown 15 = .ok (.getfield 294, 3) := by decide +kernel
theorem dX13_thrown_18 : decode cX13_thrown 18 = .ok (.iload_n 2, 1) := by decide +kernel
theorem dX13_thrown_19 : decode cX13_thrown 19 = .ok (.iaload, 1) := by decide +kernel
theorem dX13_thrown_20 : decode cX13_thrown 20 = .ok (.bipush 8, 2) := by decide +kernel
theorem dX13_thrown_22 : decode cX13_thrown 22 = .ok (.isub, 1) := by decide +kernel
theorem dX13_thrown_23 : decode cX13_thrown 23 = .ok (.istore_n 3, 1) := by decide +kernel
theorem dX13_thrown_24 : decode cX13_thrown 24 = .ok (.aload_n 0, 1) := by decide +kernel
theorem dX13_thrown_25 : decode cX13_thrown 25 = .ok (.getfield 239, 3) := by decide +kernel
theorem dX13_thrown_28 : decode cX13_thrown 28 = .ok (.bipush 12, 2) := by decide +kernel
theorem dX13_thrown_30 : decode cX13_thrown 30 = .ok (.iload_n 3, 1) := by decide +kernel
theorem dX13_thrown_31 : decode cX13_thrown 31 = .ok (.imul, 1) := by decide +kernel
theorem dX13_thrown_32 : decode cX13_thrown 32 = .ok (.aload_n 0, 1) := by decide +kernel
theorem dX13_thrown_33 : decode cX13_thrown 33 = .ok (.getfield 297, 3) := by decide +kernel
theorem dX13_thrown_36 : decode cX13_thrown 36 = .ok (.iload_n 2, 1) := by decide +kernel
theorem dX13_thrown_37 : decode cX13_thrown 37 = .ok (.iaload, 1) := by decide +kernel
theorem dX13_thrown_38 : decode cX13_thrown 38 = .ok (.iadd, 1) := by decide +kernel
theorem dX13_thrown_39 : decode cX13_thrown 39 = .ok (.iaload, 1) := by decide +kernel
theorem dX13_thrown_40 : decode cX13_thrown 40 = .ok (.istore 4, 2) := by decide +kernel
theorem dX13_thrown_42 : decode cX13_thrown 42 = .ok (.iconst 0, 1) := by decide +kernel
theorem dX13_thrown_43 : decode cX13_thrown 43 = .ok (.istore 5, 2) := by decide +kernel
theorem dX13_thrown_45 : decode cX13_thrown 45 = .ok (.iload 5, 2) := by decide +kernel
theorem dX13_thrown_47 : decode cX13_thrown 47 = .ok (.aload_n 0, 1) := by decide +kernel
theorem dX13_thrown_48 : decode cX13_thrown 48 = .ok (.iload_n 3, 1) := by decide +kernel
theorem dX13_thrown_49 : decode cX13_thrown 49 = .ok (.iload 4, 2) := by decide +kernel
theorem dX13_thrown_51 : decode cX13_thrown 51 = .ok (.invokevirtual 864, 3) := by decide +kernel
theorem dX13_thrown_54 : decode cX13_thrown 54 = .ok (.if_icmp .ge 161, 3) := by decide +kernel
theorem dX13_thrown_57 : decode cX13_thrown 57 = .ok (.iload 4, 2) := by decide +kernel
theorem dX13_thrown_59 : decode cX13_thrown 59 = .ok (.iconst 1, 1) := by decide +kernel
theorem dX13_thrown_60 : decode cX13_thrown 60 = .ok (.iadd, 1) := by decide +kernel
theorem dX13_thrown_61 : decode cX13_thrown 61 = .ok (.bipush 7, 2) := by decide +kernel
theorem dX13_thrown_63 : decode cX13_thrown 63 = .ok (.iload 5, 2) := by decide +kernel
theorem dX13_thrown_65 : decode cX13_thrown 65 = .ok (.imul, 1) := by decide +kernel
theorem dX13_thrown_66 : decode cX13_thrown 66 = .ok (.iadd, 1) := by decide +kernel
theorem dX13_thrown_67 : decode cX13_thrown 67 = .ok (.istore 6, 2) := by decide +kernel
theorem dX13_thrown_69 : decode cX13_thrown 69 = .ok (.aload_n 0, 1) := by decide +kernel
theorem dX13_thrown_70 : decode cX13_thrown 70 = .ok (.iload_n 3, 1) := by decide +kernel
theorem dX13_thrown_71 : decode cX13_thrown 71 = .ok (.iload 6, 2) := by decide +kernel
theorem dX13_thrown_73 : decode cX13_thrown 73 = .ok (.invokevirtual 864, 3) := by decide +kernel
theorem dX13_thrown_76 : decode cX13_thrown 76 = .ok (.bipush 8, 2) := by decide +kernel
theorem dX13_thrown_78 : decode cX13_thrown 78 = .ok (.ishl, 1) := by decide +kernel
theorem dX13_thrown_79 : decode cX13_thrown 79 = .ok (.aload_n 0, 1) := by decide +kernel
theorem dX13_thrown_80 : decode cX13_thrown 80 = .ok (.iload_n 3, 1) := by decide +kernel
theorem dX13_thrown_81 : decode cX13_thrown 81 = .ok (.iload 6, 2) := by decide +kernel
theorem dX13_thrown_83 : decode cX13_thrown 83 = .ok (.iconst 1, 1) := by decide +kernel
theorem dX13_thrown_84 : decode cX13_thrown 84 = .ok (.iadd, 1) := by decide +kernel
theorem dX13_thrown_85 : decode cX13_thrown 85 = .ok (.invokevirtual 864, 3) := by decide +kernel
theorem dX13_thrown_88 : decode cX13_thrown 88 = .ok (.ior, 1) := by decide +kernel
theorem dX13_thrown_89 : decode cX13_thrown 89 = .ok (.istore 7, 2) := by decide +kernel
theorem dX13_thrown_91 : decode cX13_thrown 91 = .ok (.aload_n 0, 1) := by decide +kernel
theorem dX13_thrown_92 : decode cX13_thrown 92 = .ok (.iload_n 3, 1) := by decide +kernel
theorem dX13_thrown_93 : decode cX13_thrown 93 = .ok (.iload 6, 2) := by decide +kernel
theorem dX13_thrown_95 : decode cX13_thrown 95 = .ok (.iconst 2, 1) := by decide +kernel
theorem dX13_thrown_96 : decode cX13_thrown 96 = .ok (.iadd, 1) := by decide +kernel
theorem dX13_thrown_97 : decode cX13_thrown 97 = .ok (.invokevirtual 864, 3) := by decide +kernel
theorem dX13_thrown_100 : decode cX13_thrown 100 = .ok (.bipush 8, 2) := by decide +kernel
theorem dX13_thrown_102 : decode cX13_thrown 102 = .ok (.ishl, 1) := by decide +kernel
theorem dX13_thrown_103 : decode cX13_thrown 103 = .ok (.aload_n 0, 1) := by decide +kernel
theorem dX13_thrown_104 : decode cX13_thrown 104 = .ok (.iload_n 3, 1) := by decide +kernel
theorem dX13_thrown_105 : decode cX13_thrown 105 = .ok (.iload 6, 2) := by decide +kernel
theorem dX13_thrown_107 : decode cX13_thrown 107 = .ok (.iconst 3, 1) := by decide +kernel
theorem dX13_thrown_108 : decode cX13_thrown 108 = .ok (.iadd, 1) := by decide +kernel
theorem dX13_thrown_109 : decode cX13_thrown 109 = .ok (.invokevirtual 864, 3) := by decide +kernel
theorem dX13_thrown_112 : decode cX13_thrown 112 = .ok (.ior, 1) := by decide +kernel
theorem dX13_thrown_113 : decode cX13_thrown 113 = .ok (.istore 8, 2) := by decide +kernel
theorem dX13_thrown_115 : decode cX13_thrown 115 = .ok (.aload_n 0, 1) := by decide +kernel
theorem dX13_thrown_116 : decode cX13_thrown 116 = .ok (.getfield 300, 3) := by decide +kernel
theorem dX13_thrown_119 : decode cX13_thrown 119 = .ok (.iload_n 2, 1) := by decide +kernel
theorem dX13_thrown_120 : decode cX13_thrown 120 = .ok (.iaload, 1) := by decide +kernel
theorem dX13_thrown_121 : decode cX13_thrown 121 = .ok (.iload 7, 2) := by decide +kernel
theorem dX13_thrown_123 : decode cX13_thrown 123 = .ok (.if_icmp .lt 86, 3) := by decide +kernel
theorem dX13_thrown_126 : decode cX13_thrown 126 = .ok (.aload_n 0, 1) := by decide +kernel
theorem dX13_thrown_127 : decode cX13_thrown 127 = .ok (.getfield 300, 3) := by decide +kernel
theorem dX13_thrown_130 : decode cX13_thrown 130 = .ok (.iload_n 2, 1) := by decide +kernel
theorem dX13_thrown_131 : decode cX13_thrown 131 = .ok (.iaload, 1) := by decide +kernel
theorem dX13_thrown_132 : decode cX13_thrown 132 = .ok (.iload 8, 2) := by decide +kernel
theorem dX13_thrown_134 : decode cX13_thrown 134 = .ok (.if_icmp .ge 75, 3) := by decide +kernel
theorem dX13_thrown_137 : decode cX13_thrown 137 = .ok (.aload_n 0, 1) := by decide +kernel
theorem dX13_thrown_138 : decode cX13_thrown 138 = .ok (.iload_n 1, 1) := by decide +kernel
theorem dX13_thrown_139 : decode cX13_thrown 139 = .ok (.aload_n 0, 1) := by decide +kernel
theorem dX13_thrown_140 : decode cX13_thrown 140 = .ok (.iload_n 3, 1) := by decide +kernel
theorem dX13_thrown_141 : decode cX13_thrown 141 = .ok (.aload_n 0, 1) := by decide +kernel
theorem dX13_thrown_142 : decode cX13_thrown 142 = .ok (.iload_n 3, 1) := by decide +kernel
theorem dX13_thrown_143 : decode cX13_thrown 143 = .ok (.aload_n 0, 1) := by decide +kernel
theorem dX13_thrown_144 : decode cX13_thrown 144 = .ok (.iload_n 3, 1) := by decide +kernel
theorem dX13_thrown_145 : decode cX13_thrown 145 = .ok (.iload 6, 2) := by decide +kernel
theorem dX13_thrown_147 : decode cX13_thrown 147 = .ok (.bipush 6, 2) := by decide +kernel
theorem dX13_thrown_149 : decode cX13_thrown 149 = .ok (.iadd, 1) := by decide +kernel
theorem dX13_thrown_150 : decode cX13_thrown 150 = .ok (.invokevirtual 864, 3) := by decide +kernel
theorem dX13_thrown_153 : decode cX13_thrown 153 = .ok (.invokevirtual 867, 3) := by decide +kernel
theorem dX13_thrown_156 : decode cX13_thrown 156 = .ok (.invokevirtual 870, 3) := by decide +kernel
theorem dX13_thrown_159 : decode cX13_thrown 159 = .ok (.invokevirtual 1069, 3) := by decide +kernel
theorem dX13_thrown_162 : decode cX13_thrown 162 = .ok (.ifCond .ne 6, 3) := by decide +kernel
theorem dX13_thrown_165 : decode cX13_thrown 165 = .ok (.goto 44, 3) := by decide +kernel
theorem dX13_thrown_168 : decode cX13_thrown 168 = .ok (.aload_n 0, 1) := by decide +kernel
theorem dX13_thrown_169 : decode cX13_thrown 169 = .ok (.getfield 300, 3) := by decide +kernel
theorem dX13_thrown_172 : decode cX13_thrown 172 = .ok (.iload_n 2, 1) := by decide +kernel
theorem dX13_thrown_173 : decode cX13_thrown 173 = .ok (.aload_n 0, 1) := by decide +kernel
theorem dX13_thrown_174 : decode cX13_thrown 174 = .ok (.iload_n 3, 1) := by decide +kernel
theorem dX13_thrown_175 : decode cX13_thrown 175 = .ok (.iload 6, 2) := by decide +kernel
theorem dX13_thrown_177 : decode cX13_thrown 177 = .ok (.iconst 4, 1) := by decide +kernel
theorem dX13_thrown_178 : decode cX13_thrown 178 = .ok (.iadd, 1) := by decide +kernel
theorem dX13_thrown_179 : decode cX13_thrown 179 = .ok (.invokevirtual 864, 3) := by decide +kernel
theorem dX13_thrown_182 : decode cX13_thrown 182 = .ok (.bipush 8, 2) := by decide +kernel
theorem dX13_thrown_184 : decode cX13_thrown 184 = .ok (.ishl, 1) := by decide +kernel
theorem dX13_thrown_185 : decode cX13_thrown 185 = .ok (.aload_n 0, 1) := by decide +kernel
theorem dX13_thrown_186 : decode cX13_thrown 186 = .ok (.iload_n 3, 1) := by decide +kernel
theorem dX13_thrown_187 : decode cX13_thrown 187 = .ok (.iload 6, 2) := by decide +kernel
theorem dX13_thrown_189 : decode cX13_thrown 189 = .ok (.iconst 5, 1) := by decide +kernel
theorem dX13_thrown_190 : decode cX13_thrown 190 = .ok (.iadd, 1) := by decide +kernel
theorem dX13_thrown_191 : decode cX13_thrown 191 = .ok (.invokevirtual 864, 3) := by decide +kernel
theorem dX13_thrown_194 : decode cX13_thrown 194 = .ok (.ior, 1) := by decide +kernel
theorem dX13_thrown_195 : decode cX13_thrown 195 = .ok (.iastore, 1) := by decide +kernel
theorem dX13_thrown_196 : decode cX13_thrown 196 = .ok (.aload_n 0, 1) := by decide +kernel
theorem dX13_thrown_197 : decode cX13_thrown 197 = .ok (.getfield 303, 3) := by decide +kernel
theorem dX13_thrown_200 : decode cX13_thrown 200 = .ok (.iload_n 2, 1) := by decide +kernel
theorem dX13_thrown_201 : decode cX13_thrown 201 = .ok (.iconst 0, 1) := by decide +kernel
theorem dX13_thrown_202 : decode cX13_thrown 202 = .ok (.iastore, 1) := by decide +kernel
theorem dX13_thrown_203 : decode cX13_thrown 203 = .ok (.aload_n 0, 1) := by decide +kernel
theorem dX13_thrown_204 : decode cX13_thrown 204 = .ok (.iload_n 1, 1) := by decide +kernel
theorem dX13_thrown_205 : decode cX13_thrown 205 = .ok (.invokevirtual 1072, 3) := by decide +kernel
theorem dX13_thrown_208 : decode cX13_thrown 208 = .ok (.return_, 1) := by decide +kernel
theorem dX13_thrown_209 : decode cX13_thrown 209 = .ok (.iinc 5 1, 3) := by decide +kernel
theorem dX13_thrown_212 : decode cX13_thrown 212 = .ok (.goto (-167), 3) := by decide +kernel
theorem dX13_thrown_215 : decode cX13_thrown 215 = .ok (.aload_n 0, 1) := by decide +kernel
theorem dX13_thrown_216 : decode cX13_thrown 216 = .ok (.dup, 1) := by decide +kernel
theorem dX13_thrown_217 : decode cX13_thrown 217 = .ok (.getfield 1058, 3) := by decide +kernel
theorem dX13_thrown_220 : decode cX13_thrown 220 = .ok (.iconst 1, 1) := by decide +kernel
theorem dX13_thrown_221 : decode cX13_thrown 221 = .ok (.isub, 1) := by decide +kernel
theorem dX13_thrown_222 : decode cX13_thrown 222 = .ok (.putfield 1058, 3) := by decide +kernel
theorem dX13_thrown_225 : decode cX13_thrown 225 = .ok (.goto (-225), 3) := by decide +kernel
theorem dX13_thrown_228 : decode cX13_thrown 228 = .ok (.aload_n 0, 1) := by decide +kernel
theorem dX13_thrown_229 : decode cX13_thrown 229 = .ok (.iconst 3, 1) := by decide +kernel
theorem dX13_thrown_230 : decode cX13_thrown 230 = .ok (.putfield 858, 3) := by decide +kernel
theorem dX13_thrown_233 : decode cX13_thrown 233 = .ok (.aload_n 0, 1) := by decide +kernel
theorem dX13_thrown_234 : decode cX13_thrown 234 = .ok (.aload_n 0, 1) := by decide +kernel
theorem dX13_thrown_235 : decode cX13_thrown 235 = .ok (.getfield 279, 3) := by decide +kernel
theorem dX13_thrown_238 : decode cX13_thrown 238 = .ok (.iload_n 1, 1) := by decide +kernel
theorem dX13_thrown_239 : decode cX13_thrown 239 = .ok (.iaload, 1) := by decide +kernel
theorem dX13_thrown_240 : decode cX13_thrown 240 = .ok (.putfield 1043, 3) := by decide +kernel
theorem dX13_thrown_243 : decode cX13_thrown 243 = .ok (.return_, 1) := by decide +kernel
theorem rs_RX13_1064 : mx_res RX13 1064 = some (1, 574, 2) := by decide +kernel
theorem rs_RX13_1066 : mx_res RX13 1066 = some (1, 577, 1) := by decide +kernel
theorem mt_X13_fails : mx_mt 576 = some (yX13_fails, cX13_fails, 3, none) := rfl
theorem dX13_fails_0 : decode cX13_fails 0 = .ok (.aload_n 0, 1) := by decide +kernel
theorem dX13_fails_1 : decode cX13_fails 1 = .ok (.iload_n 1, 1) := by decide +kernel
theorem dX13_fails_2 : decode cX13_fails 2 = .ok (.iconst 0, 1) := by decide +kernel
theorem dX13_fails_3 : decode cX13_fails 3 = .ok (.invokevirtual 1064, 3) := by decide +kernel
theorem dX13_fails_6 : decode cX13_fails 6 = .ok (.istore_n 2, 1) := by decide +kernel
theorem dX13_fails_7 : decode cX13_fails 7 = .ok (.iload_n 2, 1) := by decide +kernel
theorem dX13_fails_8 : decode cX13_fails 8 = .ok (.ifCond .le 8, 3) := by decide +kernel
theorem dX13_fails_11 : decode cX13_fails 11 = .ok (.aload_n 0, 1) := by decide +kernel
theorem dX13_fails_12 : decode cX13_fails 12 = .ok (.iload_n 2, 1) := by decide +kernel
theorem dX13_fails_13 : decode cX13_fails 13 = .ok (.invokevirtual 1066, 3) := by decide +kernel
theorem dX13_fails_16 : decode cX13_fails 16 = .ok (.return_, 1) := by decide +kernel
theorem mt_X13_sameText : mx_mt 508 = some (yX13_sameText, cX13_sameText, 9, (some .boolean)) := rfl
theorem dX13_sameText_0 : decode cX13_sameText 0 = .ok (.sipush 6000, 3) := by decide +kernel
theorem dX13_sameText_3 : decode cX13_sameText 3 = .ok (.iload_n 1, 1) := by decide +kernel
theorem dX13_sameText_4 : decode cX13_sameText 4 = .ok (.imul, 1) := by decide +kernel
theorem dX13_sameText_5 : decode cX13_sameText 5 = .ok (.aload_n 0, 1) := by decide +kernel
theorem dX13_sameText_6 : decode cX13_sameText 6 = .ok (.getfield 215, 3) := by decide +kernel
theorem dX13_sameText_9 : decode cX13_sameText 9 = .ok (.sipush 256, 3) := by decide +kernel
theorem dX13_sameText_12 : decode cX13_sameText 12 = .ok (.iload_n 1, 1) := by decide +kernel
theorem dX13_sameText_13 : decode cX13_sameText 13 = .ok (.imul, 1) := by decide +kernel
theorem dX13_sameText_14 : decode cX13_sameText 14 = .ok (.iload_n 2, 1) := by decide +kernel
theorem dX13_sameText_15 : decode cX13_sameText 15 = .ok (.iadd, 1) := by decide +kernel
theorem dX13_sameText_16 : decode cX13_sameText 16 = .ok (.iaload, 1) := by decide +kernel
theorem dX13_sameText_17 : decode cX13_sameText 17 = .ok (.iadd, 1) := by decide +kernel
theorem dX13_sameText_18 : decode cX13_sameText 18 = .ok (.istore 5, 2) := by decide +kernel
theorem dX13_sameText_20 : decode cX13_sameText 20 = .ok (.sipush 6000, 3) := by decide +kernel
theorem dX13_sameText_23 : decode cX13_sameText 23 = .ok (.iload_n 3, 1) := by decide +kernel
theorem dX13_sameText_24 : decode cX13_sameText 24 = .ok (.imul, 1) := by decide +kernel
theorem dX13_sameText_25 : decode cX13_sameText 25 = .ok (.aload_n 0, 1) := by decide +kernel
theorem dX13_sameText_26 : decode cX13_sameText 26 = .ok (.getfield 215, 3) := by decide +kernel
theorem dX13_sameText_29 : decode cX13_sameText 29 = .ok (.sipush 256, 3) := by decide +kernel
theorem dX13_sameText_32 : decode cX13_sameText 32 = .ok (.iload_n 3, 1) := by decide +kernel
theorem dX13_sameText_33 : decode cX13_sameText 33 = .ok (.imul, 1) := by decide +kernel
theorem dX13_sameText_34 : decode cX13_sameText 34 = .ok (.iload 4, 2) := by decide +kernel
theorem dX13_sameText_36 : decode cX13_sameText 36 = .ok (.iadd, 1) := by decide +kernel
theorem dX13_sameText_37 : decode cX13_sameText 37 = .ok (.iaload, 1) := by decide +kernel
theorem dX13_sameText_38 : decode cX13_sameText 38 = .ok (.iadd, 1) := by decide +kernel
theorem dX13_sameText_39 : decode cX13_sameText 39 = .ok (.istore 6, 2) := by decide +kernel
theorem dX13_sameText_41 : decode cX13_sameText 41 = .ok (.aload_n 0, 1) := by decide +kernel
theorem dX13_sameText_42 : decode cX13_sameText 42 = .ok (.getfield 209, 3) := by decide +kernel
theorem dX13_sameText_45 : decode cX13_sameText 45 = .ok (.iload 5, 2) := by decide +kernel
theorem dX13_sameText_47 : decode cX13_sameText 47 = .ok (.iconst 1, 1) := by decide +kernel
theorem dX13_sameText_48 : decode cX13_sameText 48 = .ok (.iadd, 1) := by decide +kernel
theorem dX13_sameText_49 : decode cX13_sameText 49 = .ok (.iaload, 1) := by decide +kernel
theorem dX13_sameText_50 : decode cX13_sameText 50 = .ok (.aload_n 0, 1) := by decide +kernel
theorem dX13_sameText_51 : decode cX13_sameText 51 = .ok (.getfield 209, 3) := by decide +kernel
theorem dX13_sameText_54 : decode cX13_sameText 54 = .ok (.iload 6, 2) := by decide +kernel
theorem dX13_sameText_56 : decode cX13_sameText 56 = .ok (.iconst 1, 1) := by decide +kernel
theorem dX13_sameText_57 : decode cX13_sameText 57 = .ok (.iadd, 1) := by decide +kernel
theorem dX13_sameText_58 : decode cX13_sameText 58 = .ok (.iaload, 1) := by decide +kernel
theorem dX13_sameText_59 : decode cX13_sameText 59 = .ok (.if_icmp .ne 7, 3) := by decide +kernel
theorem dX13_sameText_62 : decode cX13_sameText 62 = .ok (.iconst 1, 1) := by decide +kernel
theorem dX13_sameText_63 : decode cX13_sameText 63 = .ok (.goto 4, 3) := by decide +kernel
theorem dX13_sameText_66 : decode cX13_sameText 66 = .ok (.iconst 0, 1) := by decide +kernel
theorem dX13_sameText_67 : decode cX13_sameText 67 = .ok (.istore 7, 2) := by decide +kernel
theorem dX13_sameText_69 : decode cX13_sameText 69 = .ok (.iconst 0, 1) := by decide +kernel
theorem dX13_sameText_70 : decode cX13_sameText 70 = .ok (.istore 8, 2) := by decide +kernel
theorem dX13_sameText_72 : decode cX13_sameText 72 = .ok (.iload 8, 2) := by decide +kernel
theorem dX13_sameText_74 : decode cX13_sameText 74 = .ok (.aload_n 0, 1) := by decide +kernel
theorem dX13_sameText_75 : decode cX13_sameText 75 = .ok (.getfield 209, 3) := by decide +kernel
theorem dX13_sameText_78 : decode cX13_sameText 78 = .ok (.iload 5, 2) := by decide +kernel
theorem dX13_sameText_80 : decode cX13_sameText 80 = .ok (.iconst 1, 1) := by decide +kernel
theorem dX13_sameText_81 : decode cX13_sameText 81 = .ok (.iadd, 1) := by decide +kernel
theorem dX13_sameText_82 : decode cX13_sameText 82 = .ok (.iaload, 1) := by decide +kernel
theorem dX13_sameText_83 : decode cX13_sameText 83 = .ok (.if_icmp .ge 48, 3) := by decide +kernel
theorem dX13_sameText_86 : decode cX13_sameText 86 = .ok (.iload 7, 2) := by decide +kernel
theorem dX13_sameText_88 : decode cX13_sameText 88 = .ok (.ifCond .eq 43, 3) := by decide +kernel
theorem dX13_sameText_91 : decode cX13_sameText 91 = .ok (.aload_n 0, 1) := by decide +kernel
theorem dX13_sameText_92 : decode cX13_sameText 92 = .ok (.getfield 209, 3) := by decide +kernel
theorem dX13_sameText_95 : decode cX13_sameText 95 = .ok (.iload 5, 2) := by decide +kernel
theorem dX13_sameText_97 : decode cX13_sameText 97 = .ok (.iconst 2, 1) := by decide +kernel
theorem dX13_sameText_98 : decode cX13_sameText 98 = .ok (.iadd, 1) := by decide +kernel
theorem dX13_sameText_99 : decode cX13_sameText 99 = .ok (.iload 8, 2) := by decide +kernel
theorem dX13_sameText_101 : decode cX13_sameText 101 = .ok (.iadd, 1) := by decide +kernel
theorem dX13_sameText_102 : decode cX13_sameText 102 = .ok (.iaload, 1) := by decide +kernel
theorem dX13_sameText_103 : decode cX13_sameText 103 = .ok (.aload_n 0, 1) := by decide +kernel
theorem dX13_sameText_104 : decode cX13_sameText 104 = .ok (.getfield 209, 3) := by decide +kernel
theorem dX13_sameText_107 : decode cX13_sameText 107 = .ok (.iload 6, 2) := by decide +kernel
theorem dX13_sameText_109 : decode cX13_sameText 109 = .ok (.iconst 2, 1) := by decide +kernel
theorem dX13_sameText_110 : decode cX13_sameText 110 = .ok (.iadd, 1) := by decide +kernel
theorem dX13_sameText_111 : decode cX13_sameText 111 = .ok (.iload 8, 2) := by decide +kernel
theorem dX13_sameText_113 : decode cX13_sameText 113 = .ok (.iadd, 1) := by decide +kernel
theorem dX13_sameText_114 : decode cX13_sameText 114 = .ok (.iaload, 1) := by decide +kernel
theorem dX13_sameText_115 : decode cX13_sameText 115 = .ok (.if_icmp .ne 7, 3) := by decide +kernel
theorem dX13_sameText_118 : decode cX13_sameText 118 = .ok (.iconst 1, 1) := by decide +kernel
theorem dX13_sameText_119 : decode cX13_sameText 119 = .ok (.goto 4, 3) := by decide +kernel
theorem dX13_sameText_122 : decode cX13_sameText 122 = .ok (.iconst 0, 1) := by decide +kernel
theorem dX13_sameText_123 : decode cX13_sameText 123 = .ok (.istore 7, 2) := by decide +kernel
theorem dX13_sameText_125 : decode cX13_sameText 125 = .ok (.iinc 8 1, 3) := by decide +kernel
theorem dX13_sameText_128 : decode cX13_sameText 128 = .ok (.goto (-56), 3) := by decide +kernel
theorem dX13_sameText_131 : decode cX13_sameText 131 = .ok (.iload 7, 2) := by decide +kernel
theorem dX13_sameText_133 : decode cX13_sameText 133 = .ok (.ireturn, 1) := by decide +kernel
theorem rs_RX13_894 : mx_res RX13 894 = some (1, 508, 4) := by decide +kernel
theorem rs_RX13_898 : mx_res RX13 898 = some (0, 13, 121) := by decide +kernel
theorem ft_13_121 : mx_fty 13 121 = some (.int, false, "ClassMillModel") := by decide +kernel
theorem mt_X13_holder : mx_mt 532 = some (yX13_holder, cX13_holder, 11, (some .int)) := rfl
theorem dX13_holder_0 : decode cX13_holder 0 = .ok (.iload_n 1, 1) := by decide +kernel
theorem dX13_holder_1 : decode cX13_holder 1 = .ok (.istore 5, 2) := by decide +kernel
theorem dX13_holder_3 : decode cX13_holder 3 = .ok (.iconst 0, 1) := by decide +kernel
theorem dX13_holder_4 : decode cX13_holder 4 = .ok (.istore 6, 2) := by decide +kernel
theorem dX13_holder_6 : decode cX13_holder 6 = .ok (.iload 6, 2) := by decide +kernel
theorem dX13_holder_8 : decode cX13_holder 8 = .ok (.bipush 16, 2) := by decide +kernel
theorem dX13_holder_10 : decode cX13_holder 10 = .ok (.if_icmp .gt 152, 3) := by decide +kernel
theorem dX13_holder_13 : decode cX13_holder 13 = .ok (.iload 5, 2) := by decide +kernel
theorem dX13_holder_15 : decode cX13_holder 15 = .ok (.iconst (-1), 1) := by decide +kernel
theorem dX13_holder_16 : decode cX13_holder 16 = .ok (.if_icmp .eq 146, 3) := by decide +kernel
theorem dX13_holder_19 : decode cX13_holder 19 = .ok (.iload 5, 2) := by decide +kernel
theorem dX13_holder_21 : decode cX13_holder 21 = .ok (.bipush 8, 2) := by decide +kernel
theorem dX13_holder_23 : decode cX13_holder 23 = .ok (.if_icmp .lt 125, 3) := by decide +kernel
theorem dX13_holder_26 : decode cX13_holder 26 = .ok (.iload 5, 2) := by decide +kernel
theorem dX13_holder_28 : decode cX13_holder 28 = .ok (.bipush 8, 2) := by decide +kernel
theorem dX13_holder_30 : decode cX13_holder 30 = .ok (.isub, 1) := by decide +kernel
theorem dX13_holder_31 : decode cX13_holder 31 = .ok (.istore 7, 2) := by decide +kernel
theorem dX13_holder_33 : decode cX13_holder 33 = .ok (.iload 4, 2) := by decide +kernel
theorem dX13_holder_35 : decode cX13_holder 35 = .ok (.ifCond .eq 13, 3) := by decide +kernel
theorem dX13_holder_38 : decode cX13_holder 38 = .ok (.aload_n 0, 1) := by decide +kernel
theorem dX13_holder_39 : decode cX13_holder 39 = .ok (.getfield 233, 3) := by decide +kernel
theorem dX13_holder_42 : decode cX13_holder 42 = .ok (.iload 7, 2) := by decide +kernel
theorem dX13_holder_44 : decode cX13_holder 44 = .ok (.iaload, 1) := by decide +kernel
theorem dX13_holder_45 : decode cX13_holder 45 = .ok (.goto 10, 3) := by decide +kernel
theorem dX13_holder_48 : decode cX13_holder 48 = .ok (.aload_n 0, 1) := by decide +kernel
theorem dX13_holder_49 : decode cX13_holder 49 = .ok (.getfield 227, 3) := by decide +kernel
theorem dX13_holder_52 : decode cX13_holder 52 = .ok (.iload 7, 2) := by decide +kernel
theorem dX13_holder_54 : decode cX13_holder 54 = .ok (.iaload, 1) := by decide +kernel
theorem dX13_holder_55 : decode cX13_holder 55 = .ok (.istore 8, 2) := by decide +kernel
theorem dX13_holder_57 : decode cX13_holder 57 = .ok (.iconst 0, 1) := by decide +kernel
theorem dX13_holder_58 : decode cX13_holder 58 = .ok (.istore 9, 2) := by decide +kernel
theorem dX13_holder_60 : decode cX13_holder 60 = .ok (.iload 9, 2) := by decide +kernel
theorem dX13_holder_62 : decode cX13_holder 62 = .ok (.iload 8, 2) := by decide +kernel
theorem dX13_holder_64 : decode cX13_holder 64 = .ok (.if_icmp .ge 84, 3) := by decide +kernel
theorem dX13_holder_67 : decode cX13_holder 67 = .ok (.iload 4, 2) := by decide +kernel
theorem dX13_holder_69 : decode cX13_holder 69 = .ok (.ifCond .eq 27, 3) := by decide +kernel
theorem dX13_holder_72 : decode cX13_holder 72 = .ok (.aload_n 0, 1) := by decide +kernel
theorem dX13_holder_73 : decode cX13_holder 73 = .ok (.iload 7, 2) := by decide +kernel
theorem dX13_holder_75 : decode cX13_holder 75 = .ok (.aload_n 0, 1) := by decide +kernel
theorem dX13_holder_76 : decode cX13_holder 76 = .ok (.getfield 236, 3) := by decide +kernel
theorem dX13_holder_79 : decode cX13_holder 79 = .ok (.bipush 12, 2) := by decide +kernel
theorem dX13_holder_81 : decode cX13_holder 81 = .ok (.iload 7, 2) := by decide +kernel
theorem dX13_holder_83 : decode cX13_holder 83 = .ok (.imul, 1) := by decide +kernel
theorem dX13_holder_84 : decode cX13_holder 84 = .ok (.iload 9, 2) := by decide +kernel
theorem dX13_holder_86 : decode cX13_holder 86 = .ok (.iadd, 1) := by decide +kernel
theorem dX13_holder_87 : decode cX13_holder 87 = .ok (.iaload, 1) := by decide +kernel
theorem dX13_holder_88 : decode cX13_holder 88 = .ok (.iconst 1, 1) := by decide +kernel
theorem dX13_holder_89 : decode cX13_holder 89 = .ok (.iadd, 1) := by decide +kernel
theorem dX13_holder_90 : decode cX13_holder 90 = .ok (.invokevirtual 864, 3) := by decide +kernel
theorem dX13_holder_93 : decode cX13_holder 93 = .ok (.goto 22, 3) := by decide +kernel
theorem dX13_holder_96 : decode cX13_holder 96 = .ok (.aload_n 0, 1) := by decide +kernel
theorem dX13_holder_97 : decode cX13_holder 97 = .ok (.iload 7, 2) := by decide +kernel
theorem dX13_holder_99 : decode cX13_holder 99 = .ok (.aload_n 0, 1) := by decide +kernel
theorem dX13_holder_100 : decode cX13_holder 100 = .ok (.getfield 230, 3) := by decide +kernel
theorem dX13_holder_103 : decode cX13_holder 103 = .ok (.bipush 12, 2) := by decide +kernel
theorem dX13_holder_105 : decode cX13_holder 105 = .ok (.iload 7, 2) := by decide +kernel
theorem dX13_holder_107 : decode cX13_holder 107 = .ok (.imul, 1) := by decide +kernel
theorem dX13_holder_108 : decode cX13_holder 108 = .ok (.iload 9, 2) := by decide +kernel
theorem dX13_holder_110 : decode cX13_holder 110 = .ok (.iadd, 1) := by decide +kernel
theorem dX13_holder_111 : decode cX13_holder 111 = .ok (.iaload, 1) := by decide +kernel
theorem dX13_holder_112 : decode cX13_holder 112 = .ok (.invokevirtual 864, 3) := by decide +kernel
theorem dX13_holder_115 : decode cX13_holder 115 = .ok (.istore 10, 2) := by decide +kernel
theorem dX13_holder_117 : decode cX13_holder 117 = .ok (.aload_n 0, 1) := by decide +kernel
theorem dX13_holder_118 : decode cX13_holder 118 = .ok (.iload 7, 2) := by decide +kernel
theorem dX13_holder_120 : decode cX13_holder 120 = .ok (.iload 10, 2) := by decide +kernel
theorem dX13_holder_122 : decode cX13_holder 122 = .ok (.iload_n 2, 1) := by decide +kernel
theorem dX13_holder_123 : decode cX13_holder 123 = .ok (.iload_n 3, 1) := by decide +kernel
theorem dX13_holder_124 : decode cX13_holder 124 = .ok (.invokevirtual 894, 3) := by decide +kernel
theorem dX13_holder_127 : decode cX13_holder 127 = .ok (.ifCond .ne 6, 3) := by decide +kernel
theorem dX13_holder_130 : decode cX13_holder 130 = .ok (.goto 12, 3) := by decide +kernel
theorem dX13_holder_133 : decode cX13_holder 133 = .ok (.aload_n 0, 1) := by decide +kernel
theorem dX13_holder_134 : decode cX13_holder 134 = .ok (.iload 9, 2) := by decide +kernel
theorem dX13_holder_136 : decode cX13_holder 136 = .ok (.putfield 898, 3) := by decide +kernel
theorem dX13_holder_139 : decode cX13_holder 139 = .ok (.iload 5, 2) := by decide +kernel
theorem dX13_holder_141 : decode cX13_holder 141 = .ok (.ireturn, 1) := by decide +kernel
theorem dX13_holder_142 : decode cX13_holder 142 = .ok (.iinc 9 1, 3) := by decide +kernel
theorem dX13_holder_145 : decode cX13_holder 145 = .ok (.goto (-85), 3) := by decide +kernel
theorem dX13_holder_148 : decode cX13_holder 148 = .ok (.aload_n 0, 1) := by decide +kernel
theorem dX13_holder_149 : decode cX13_holder 149 = .ok (.iload 5, 2) := by decide +kernel
theorem dX13_holder_151 : decode cX13_holder 151 = .ok (.invokevirtual 873, 3) := by decide +kernel
theorem dX13_holder_154 : decode cX13_holder 154 = .ok (.istore 5, 2) := by decide +kernel
theorem dX13_holder_156 : decode cX13_holder 156 = .ok (.iinc 6 1, 3) := by decide +kernel
theorem dX13_holder_159 : decode cX13_holder 159 = .ok (.goto (-153), 3) := by decide +kernel
theorem dX13_holder_162 : decode cX13_holder 162 = .ok (.iconst (-1), 1) := by decide +kernel
theorem dX13_holder_163 : decode cX13_holder 163 = .ok (.ireturn, 1) := by decide +kernel
theorem mt_X13_memberPart : mx_mt 589 = some (yX13_memberPart, cX13_memberPart, 4, (some .int)) := rfl
theorem dX13_memberPart_0 : decode cX13_memberPart 0 = .ok (.aload_n 0, 1) := by decide +kernel
theorem dX13_memberPart_1 : decode cX13_memberPart 1 = .ok (.getfield 294, 3) := by decide +kernel
theorem dX13_memberPart_4 : decode cX13_memberPart 4 = .ok (.aload_n 0, 1) := by decide +kernel
theorem dX13_memberPart_5 : decode cX13_memberPart 5 = .ok (.getfield 1058, 3) := by decide +kernel
theorem dX13_memberPart_8 : decode cX13_memberPart 8 = .ok (.iconst 1, 1) := by decide +kernel
theorem dX13_memberPart_9 : decode cX13_memberPart 9 = .ok (.isub, 1) := by decide +kernel
theorem dX13_memberPart_10 : decode cX13_memberPart 10 = .ok (.iaload, 1) := by decide +kernel
theorem dX13_memberPart_11 : decode cX13_memberPart 11 = .ok (.bipush 8, 2) := by decide +kernel
theorem dX13_memberPart_13 : decode cX13_memberPart 13 = .ok (.isub, 1) := by decide +kernel
theorem dX13_memberPart_14 : decode cX13_memberPart 14 = .ok (.istore_n 3, 1) := by decide +kernel
theorem dX13_memberPart_15 : decode cX13_memberPart 15 = .ok (.aload_n 0, 1) := by decide +kernel
theorem dX13_memberPart_16 : decode cX13_memberPart 16 = .ok (.iload_n 3, 1) := by decide +kernel
theorem dX13_memberPart_17 : decode cX13_memberPart 17 = .ok (.aload_n 0, 1) := by decide +kernel
theorem dX13_memberPart_18 : decode cX13_memberPart 18 = .ok (.getfield 215, 3) := by decide +kernel
theorem dX13_memberPart_21 : decode cX13_memberPart 21 = .ok (.sipush 256, 3) := by decide +kernel
theorem dX13_memberPart_24 : decode cX13_memberPart 24 = .ok (.iload_n 3, 1) := by decide +kernel
theorem dX13_memberPart_25 : decode cX13_memberPart 25 = .ok (.imul, 1) := by decide +kernel
theorem dX13_memberPart_26 : decode cX13_memberPart 26 = .ok (.iload_n 1, 1) := by decide +kernel
theorem dX13_memberPart_27 : decode cX13_memberPart 27 = .ok (.iadd, 1) := by decide +kernel
theorem dX13_memberPart_28 : decode cX13_memberPart 28 = .ok (.iaload, 1) := by decide +kernel
theorem dX13_memberPart_29 : decode cX13_memberPart 29 = .ok (.iconst 1, 1) := by decide +kernel
theorem dX13_memberPart_30 : decode cX13_memberPart 30 = .ok (.iadd, 1) := by decide +kernel
theorem dX13_memberPart_31 : decode cX13_memberPart 31 = .ok (.iload_n 2, 1) := by decide +kernel
theorem dX13_memberPart_32 : decode cX13_memberPart 32 = .ok (.iadd, 1) := by decide +kernel
theorem dX13_memberPart_33 : decode cX13_memberPart 33 = .ok (.invokevirtual 864, 3) := by decide +kernel
theorem dX13_memberPart_36 : decode cX13_memberPart 36 = .ok (.ireturn, 1) := by decide +kernel
