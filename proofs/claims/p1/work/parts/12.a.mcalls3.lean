abbrev cX13_wrong : ByteArray := prog_15_method_6_code
def yX13_wrong : MethodName := ⟨RX13, "wrong", "(II)V"⟩
abbrev cX13_token : ByteArray := prog_15_method_11_code
def yX13_token : MethodName := ⟨RX13, "token", "(IIII)V"⟩
abbrev cX13_tokenize : ByteArray := prog_15_method_13_code
def yX13_tokenize : MethodName := ⟨RX13, "tokenize", "()V"⟩
abbrev cX13_isWord : ByteArray := prog_15_method_17_code
def yX13_isWord : MethodName := ⟨RX13, "isWord", "(II)Z"⟩
abbrev cX13_misplaced : ByteArray := prog_15_method_18_code
def yX13_misplaced : MethodName := ⟨RX13, "misplaced", "()V"⟩
abbrev cX13_word : ByteArray := prog_15_method_20_code
def yX13_word : MethodName := ⟨RX13, "word", "(I)V"⟩
abbrev cX13_name : ByteArray := prog_15_method_21_code
def yX13_name : MethodName := ⟨RX13, "name", "()I"⟩
abbrev cX13_program : ByteArray := prog_15_method_24_code
def yX13_program : MethodName := ⟨RX13, "program", "()V"⟩
abbrev cX13_compile : ByteArray := prog_15_method_110_code
def yX13_compile : MethodName := ⟨RX13, "compile", "()I"⟩
abbrev cX13_loaded : ByteArray := prog_15_method_137_code
def yX13_loaded : MethodName := ⟨RX13, "loaded", "()I"⟩
abbrev cX13_load : ByteArray := prog_15_method_140_code
def yX13_load : MethodName := ⟨RX13, "load", "()I"⟩
theorem dX13_wrong_0 : decode cX13_wrong 0 = .ok (.aload_n 0, 1) := by decide +kernel
theorem dX13_wrong_1 : decode cX13_wrong 1 = .ok (.getfield 319, 3) := by decide +kernel
theorem dX13_wrong_4 : decode cX13_wrong 4 = .ok (.ifCond .eq 4, 3) := by decide +kernel
theorem dX13_wrong_8 : decode cX13_wrong 8 = .ok (.aload_n 0, 1) := by decide +kernel
theorem dX13_wrong_9 : decode cX13_wrong 9 = .ok (.iload_n 1, 1) := by decide +kernel
theorem dX13_wrong_10 : decode cX13_wrong 10 = .ok (.putfield 319, 3) := by decide +kernel
theorem dX13_wrong_13 : decode cX13_wrong 13 = .ok (.aload_n 0, 1) := by decide +kernel
theorem dX13_wrong_14 : decode cX13_wrong 14 = .ok (.aload_n 0, 1) := by decide +kernel
theorem dX13_wrong_15 : decode cX13_wrong 15 = .ok (.getfield 19, 3) := by decide +kernel
theorem dX13_wrong_18 : decode cX13_wrong 18 = .ok (.iload_n 2, 1) := by decide +kernel
theorem dX13_wrong_19 : decode cX13_wrong 19 = .ok (.iaload, 1) := by decide +kernel
theorem dX13_wrong_20 : decode cX13_wrong 20 = .ok (.putfield 322, 3) := by decide +kernel
theorem dX13_wrong_23 : decode cX13_wrong 23 = .ok (.return_, 1) := by decide +kernel
theorem dX13_token_0 : decode cX13_token 0 = .ok (.aload_n 0, 1) := by decide +kernel
theorem dX13_token_1 : decode cX13_token 1 = .ok (.getfield 16, 3) := by decide +kernel
theorem dX13_token_4 : decode cX13_token 4 = .ok (.aload_n 0, 1) := by decide +kernel
theorem dX13_token_5 : decode cX13_token 5 = .ok (.getfield 338, 3) := by decide +kernel
theorem dX13_token_8 : decode cX13_token 8 = .ok (.iload_n 1, 1) := by decide +kernel
theorem dX13_token_9 : decode cX13_token 9 = .ok (.iastore, 1) := by decide +kernel
theorem dX13_token_10 : decode cX13_token 10 = .ok (.aload_n 0, 1) := by decide +kernel
theorem dX13_token_11 : decode cX13_token 11 = .ok (.getfield 19, 3) := by decide +kernel
theorem dX13_token_14 : decode cX13_token 14 = .ok (.aload_n 0, 1) := by decide +kernel
theorem dX13_token_15 : decode cX13_token 15 = .ok (.getfield 338, 3) := by decide +kernel
theorem dX13_token_18 : decode cX13_token 18 = .ok (.iload_n 2, 1) := by decide +kernel
theorem dX13_token_19 : decode cX13_token 19 = .ok (.iastore, 1) := by decide +kernel
theorem dX13_token_20 : decode cX13_token 20 = .ok (.aload_n 0, 1) := by decide +kernel
theorem dX13_token_21 : decode cX13_token 21 = .ok (.getfield 22, 3) := by decide +kernel
theorem dX13_token_24 : decode cX13_token 24 = .ok (.aload_n 0, 1) := by decide +kernel
theorem dX13_token_25 : decode cX13_token 25 = .ok (.getfield 338, 3) := by decide +kernel
theorem dX13_token_28 : decode cX13_token 28 = .ok (.iload_n 3, 1) := by decide +kernel
theorem dX13_token_29 : decode cX13_token 29 = .ok (.iastore, 1) := by decide +kernel
theorem dX13_token_30 : decode cX13_token 30 = .ok (.aload_n 0, 1) := by decide +kernel
theorem dX13_token_31 : decode cX13_token 31 = .ok (.getfield 25, 3) := by decide +kernel
theorem dX13_token_34 : decode cX13_token 34 = .ok (.aload_n 0, 1) := by decide +kernel
theorem dX13_token_35 : decode cX13_token 35 = .ok (.getfield 338, 3) := by decide +kernel
theorem dX13_token_38 : decode cX13_token 38 = .ok (.iload 4, 2) := by decide +kernel
theorem dX13_token_40 : decode cX13_token 40 = .ok (.iastore, 1) := by decide +kernel
theorem dX13_token_41 : decode cX13_token 41 = .ok (.aload_n 0, 1) := by decide +kernel
theorem dX13_token_42 : decode cX13_token 42 = .ok (.dup, 1) := by decide +kernel
theorem dX13_token_43 : decode cX13_token 43 = .ok (.getfield 338, 3) := by decide +kernel
theorem dX13_token_46 : decode cX13_token 46 = .ok (.iconst 1, 1) := by decide +kernel
theorem dX13_token_47 : decode cX13_token 47 = .ok (.iadd, 1) := by decide +kernel
theorem dX13_token_48 : decode cX13_token 48 = .ok (.putfield 338, 3) := by decide +kernel
theorem dX13_token_51 : decode cX13_token 51 = .ok (.return_, 1) := by decide +kernel
theorem dX13_tokenize_0 : decode cX13_tokenize 0 = .ok (.aload_n 0, 1) := by decide +kernel
theorem dX13_tokenize_1 : decode cX13_tokenize 1 = .ok (.iconst 0, 1) := by decide +kernel
theorem dX13_tokenize_2 : decode cX13_tokenize 2 = .ok (.putfield 338, 3) := by decide +kernel
theorem dX13_tokenize_5 : decode cX13_tokenize 5 = .ok (.iconst 0, 1) := by decide +kernel
theorem dX13_tokenize_6 : decode cX13_tokenize 6 = .ok (.istore_n 1, 1) := by decide +kernel
theorem dX13_tokenize_7 : decode cX13_tokenize 7 = .ok (.iload_n 1, 1) := by decide +kernel
theorem dX13_tokenize_8 : decode cX13_tokenize 8 = .ok (.aload_n 0, 1) := by decide +kernel
theorem dX13_tokenize_9 : decode cX13_tokenize 9 = .ok (.getfield 325, 3) := by decide +kernel
theorem dX13_tokenize_12 : decode cX13_tokenize 12 = .ok (.if_icmp .ge 421, 3) := by decide +kernel
theorem dX13_tokenize_433 : decode cX13_tokenize 433 = .ok (.aload_n 0, 1) := by decide +kernel
theorem dX13_tokenize_434 : decode cX13_tokenize 434 = .ok (.iconst 5, 1) := by decide +kernel
theorem dX13_tokenize_435 : decode cX13_tokenize 435 = .ok (.aload_n 0, 1) := by decide +kernel
theorem dX13_tokenize_436 : decode cX13_tokenize 436 = .ok (.getfield 325, 3) := by decide +kernel
theorem dX13_tokenize_439 : decode cX13_tokenize 439 = .ok (.iconst 0, 1) := by decide +kernel
theorem dX13_tokenize_440 : decode cX13_tokenize 440 = .ok (.iconst 0, 1) := by decide +kernel
theorem dX13_tokenize_441 : decode cX13_tokenize 441 = .ok (.invokevirtual 358, 3) := by decide +kernel
theorem dX13_tokenize_444 : decode cX13_tokenize 444 = .ok (.aload_n 0, 1) := by decide +kernel
theorem dX13_tokenize_445 : decode cX13_tokenize 445 = .ok (.getfield 338, 3) := by decide +kernel
theorem dX13_tokenize_448 : decode cX13_tokenize 448 = .ok (.istore_n 2, 1) := by decide +kernel
theorem dX13_tokenize_449 : decode cX13_tokenize 449 = .ok (.iload_n 2, 1) := by decide +kernel
theorem dX13_tokenize_450 : decode cX13_tokenize 450 = .ok (.aload_n 0, 1) := by decide +kernel
theorem dX13_tokenize_451 : decode cX13_tokenize 451 = .ok (.getfield 338, 3) := by decide +kernel
theorem dX13_tokenize_454 : decode cX13_tokenize 454 = .ok (.iconst 4, 1) := by decide +kernel
theorem dX13_tokenize_455 : decode cX13_tokenize 455 = .ok (.iadd, 1) := by decide +kernel
theorem dX13_tokenize_456 : decode cX13_tokenize 456 = .ok (.if_icmp .ge 16, 3) := by decide +kernel
theorem dX13_tokenize_459 : decode cX13_tokenize 459 = .ok (.aload_n 0, 1) := by decide +kernel
theorem dX13_tokenize_460 : decode cX13_tokenize 460 = .ok (.getfield 16, 3) := by decide +kernel
theorem dX13_tokenize_463 : decode cX13_tokenize 463 = .ok (.iload_n 2, 1) := by decide +kernel
theorem dX13_tokenize_464 : decode cX13_tokenize 464 = .ok (.iconst 5, 1) := by decide +kernel
theorem dX13_tokenize_465 : decode cX13_tokenize 465 = .ok (.iastore, 1) := by decide +kernel
theorem dX13_tokenize_466 : decode cX13_tokenize 466 = .ok (.iinc 2 1, 3) := by decide +kernel
theorem dX13_tokenize_469 : decode cX13_tokenize 469 = .ok (.goto (-20), 3) := by decide +kernel
theorem dX13_tokenize_472 : decode cX13_tokenize 472 = .ok (.return_, 1) := by decide +kernel
theorem dX13_isWord_0 : decode cX13_isWord 0 = .ok (.aload_n 0, 1) := by decide +kernel
theorem dX13_isWord_1 : decode cX13_isWord 1 = .ok (.getfield 16, 3) := by decide +kernel
theorem dX13_isWord_4 : decode cX13_isWord 4 = .ok (.iload_n 1, 1) := by decide +kernel
theorem dX13_isWord_5 : decode cX13_isWord 5 = .ok (.iaload, 1) := by decide +kernel
theorem dX13_isWord_6 : decode cX13_isWord 6 = .ok (.iconst 3, 1) := by decide +kernel
theorem dX13_isWord_7 : decode cX13_isWord 7 = .ok (.if_icmp .ne 17, 3) := by decide +kernel
theorem dX13_isWord_24 : decode cX13_isWord 24 = .ok (.iconst 0, 1) := by decide +kernel
theorem dX13_isWord_25 : decode cX13_isWord 25 = .ok (.ireturn, 1) := by decide +kernel
theorem dX13_misplaced_0 : decode cX13_misplaced 0 = .ok (.aload_n 0, 1) := by decide +kernel
theorem dX13_misplaced_1 : decode cX13_misplaced 1 = .ok (.aload_n 0, 1) := by decide +kernel
theorem dX13_misplaced_2 : decode cX13_misplaced 2 = .ok (.getfield 16, 3) := by decide +kernel
theorem dX13_misplaced_5 : decode cX13_misplaced 5 = .ok (.aload_n 0, 1) := by decide +kernel
theorem dX13_misplaced_6 : decode cX13_misplaced 6 = .ok (.getfield 376, 3) := by decide +kernel
theorem dX13_misplaced_9 : decode cX13_misplaced 9 = .ok (.iaload, 1) := by decide +kernel
theorem dX13_misplaced_10 : decode cX13_misplaced 10 = .ok (.bipush 6, 2) := by decide +kernel
theorem dX13_misplaced_12 : decode cX13_misplaced 12 = .ok (.if_icmp .ne 7, 3) := by decide +kernel
theorem dX13_misplaced_19 : decode cX13_misplaced 19 = .ok (.iconst 2, 1) := by decide +kernel
theorem dX13_misplaced_20 : decode cX13_misplaced 20 = .ok (.aload_n 0, 1) := by decide +kernel
theorem dX13_misplaced_21 : decode cX13_misplaced 21 = .ok (.getfield 376, 3) := by decide +kernel
theorem dX13_misplaced_24 : decode cX13_misplaced 24 = .ok (.invokevirtual 379, 3) := by decide +kernel
theorem dX13_misplaced_27 : decode cX13_misplaced 27 = .ok (.return_, 1) := by decide +kernel
theorem dX13_word_0 : decode cX13_word 0 = .ok (.aload_n 0, 1) := by decide +kernel
theorem dX13_word_1 : decode cX13_word 1 = .ok (.getfield 319, 3) := by decide +kernel
theorem dX13_word_4 : decode cX13_word 4 = .ok (.ifCond .eq 4, 3) := by decide +kernel
theorem dX13_word_8 : decode cX13_word 8 = .ok (.aload_n 0, 1) := by decide +kernel
theorem dX13_word_9 : decode cX13_word 9 = .ok (.aload_n 0, 1) := by decide +kernel
theorem dX13_word_10 : decode cX13_word 10 = .ok (.getfield 376, 3) := by decide +kernel
theorem dX13_word_13 : decode cX13_word 13 = .ok (.iload_n 1, 1) := by decide +kernel
theorem dX13_word_14 : decode cX13_word 14 = .ok (.invokevirtual 390, 3) := by decide +kernel
theorem dX13_word_17 : decode cX13_word 17 = .ok (.ifCond .eq 16, 3) := by decide +kernel
theorem dX13_word_33 : decode cX13_word 33 = .ok (.aload_n 0, 1) := by decide +kernel
theorem dX13_word_34 : decode cX13_word 34 = .ok (.invokevirtual 387, 3) := by decide +kernel
theorem dX13_word_37 : decode cX13_word 37 = .ok (.return_, 1) := by decide +kernel
theorem dX13_name_0 : decode cX13_name 0 = .ok (.aload_n 0, 1) := by decide +kernel
theorem dX13_name_1 : decode cX13_name 1 = .ok (.getfield 319, 3) := by decide +kernel
theorem dX13_name_4 : decode cX13_name 4 = .ok (.ifCond .eq 5, 3) := by decide +kernel
theorem dX13_name_7 : decode cX13_name 7 = .ok (.iconst 0, 1) := by decide +kernel
theorem dX13_name_8 : decode cX13_name 8 = .ok (.ireturn, 1) := by decide +kernel
theorem dX13_program_0 : decode cX13_program 0 = .ok (.aload_n 0, 1) := by decide +kernel
theorem dX13_program_1 : decode cX13_program 1 = .ok (.iconst 0, 1) := by decide +kernel
theorem dX13_program_2 : decode cX13_program 2 = .ok (.putfield 409, 3) := by decide +kernel
theorem dX13_program_5 : decode cX13_program 5 = .ok (.aload_n 0, 1) := by decide +kernel
theorem dX13_program_6 : decode cX13_program 6 = .ok (.iconst 0, 1) := by decide +kernel
theorem dX13_program_7 : decode cX13_program 7 = .ok (.putfield 412, 3) := by decide +kernel
theorem dX13_program_10 : decode cX13_program 10 = .ok (.aload_n 0, 1) := by decide +kernel
theorem dX13_program_11 : decode cX13_program 11 = .ok (.iconst 0, 1) := by decide +kernel
theorem dX13_program_12 : decode cX13_program 12 = .ok (.putfield 415, 3) := by decide +kernel
theorem dX13_program_15 : decode cX13_program 15 = .ok (.aload_n 0, 1) := by decide +kernel
theorem dX13_program_16 : decode cX13_program 16 = .ok (.iconst 0, 1) := by decide +kernel
theorem dX13_program_17 : decode cX13_program 17 = .ok (.putfield 373, 3) := by decide +kernel
theorem dX13_program_20 : decode cX13_program 20 = .ok (.aload_n 0, 1) := by decide +kernel
theorem dX13_program_21 : decode cX13_program 21 = .ok (.iconst 0, 1) := by decide +kernel
theorem dX13_program_22 : decode cX13_program 22 = .ok (.putfield 376, 3) := by decide +kernel
theorem dX13_program_25 : decode cX13_program 25 = .ok (.aload_n 0, 1) := by decide +kernel
theorem dX13_program_26 : decode cX13_program 26 = .ok (.iconst 3, 1) := by decide +kernel
theorem dX13_program_27 : decode cX13_program 27 = .ok (.invokevirtual 418, 3) := by decide +kernel
theorem dX13_program_30 : decode cX13_program 30 = .ok (.aload_n 0, 1) := by decide +kernel
theorem dX13_program_31 : decode cX13_program 31 = .ok (.invokevirtual 403, 3) := by decide +kernel
theorem dX13_program_34 : decode cX13_program 34 = .ok (.istore_n 1, 1) := by decide +kernel
theorem dX13_program_35 : decode cX13_program 35 = .ok (.iconst (-1), 1) := by decide +kernel
theorem dX13_program_36 : decode cX13_program 36 = .ok (.istore_n 2, 1) := by decide +kernel
theorem dX13_program_37 : decode cX13_program 37 = .ok (.aload_n 0, 1) := by decide +kernel
theorem dX13_program_38 : decode cX13_program 38 = .ok (.getfield 319, 3) := by decide +kernel
theorem dX13_program_41 : decode cX13_program 41 = .ok (.ifCond .ne 31, 3) := by decide +kernel
theorem dX13_program_72 : decode cX13_program 72 = .ok (.aload_n 0, 1) := by decide +kernel
theorem dX13_program_73 : decode cX13_program 73 = .ok (.getfield 319, 3) := by decide +kernel
theorem dX13_program_76 : decode cX13_program 76 = .ok (.ifCond .eq 4, 3) := by decide +kernel
theorem dX13_program_79 : decode cX13_program 79 = .ok (.return_, 1) := by decide +kernel
theorem dX13_compile_0 : decode cX13_compile 0 = .ok (.aload_n 0, 1) := by decide +kernel
theorem dX13_compile_1 : decode cX13_compile 1 = .ok (.getfield 312, 3) := by decide +kernel
theorem dX13_compile_4 : decode cX13_compile 4 = .ok (.istore_n 1, 1) := by decide +kernel
theorem dX13_compile_5 : decode cX13_compile 5 = .ok (.aload_n 0, 1) := by decide +kernel
theorem dX13_compile_6 : decode cX13_compile 6 = .ok (.iconst 0, 1) := by decide +kernel
theorem dX13_compile_7 : decode cX13_compile 7 = .ok (.putfield 312, 3) := by decide +kernel
theorem dX13_compile_10 : decode cX13_compile 10 = .ok (.aload_n 0, 1) := by decide +kernel
theorem dX13_compile_11 : decode cX13_compile 11 = .ok (.iconst 0, 1) := by decide +kernel
theorem dX13_compile_12 : decode cX13_compile 12 = .ok (.putfield 319, 3) := by decide +kernel
theorem dX13_compile_15 : decode cX13_compile 15 = .ok (.aload_n 0, 1) := by decide +kernel
theorem dX13_compile_16 : decode cX13_compile 16 = .ok (.iconst (-1), 1) := by decide +kernel
theorem dX13_compile_17 : decode cX13_compile 17 = .ok (.putfield 322, 3) := by decide +kernel
theorem dX13_compile_20 : decode cX13_compile 20 = .ok (.iload_n 1, 1) := by decide +kernel
theorem dX13_compile_21 : decode cX13_compile 21 = .ok (.sipush 3000, 3) := by decide +kernel
theorem dX13_compile_24 : decode cX13_compile 24 = .ok (.if_icmp .le 17, 3) := by decide +kernel
theorem dX13_compile_41 : decode cX13_compile 41 = .ok (.iconst 0, 1) := by decide +kernel
theorem dX13_compile_42 : decode cX13_compile 42 = .ok (.istore_n 2, 1) := by decide +kernel
theorem dX13_compile_43 : decode cX13_compile 43 = .ok (.iload_n 2, 1) := by decide +kernel
theorem dX13_compile_44 : decode cX13_compile 44 = .ok (.iload_n 1, 1) := by decide +kernel
theorem dX13_compile_45 : decode cX13_compile 45 = .ok (.if_icmp .ge 21, 3) := by decide +kernel
theorem dX13_compile_66 : decode cX13_compile 66 = .ok (.aload_n 0, 1) := by decide +kernel
theorem dX13_compile_67 : decode cX13_compile 67 = .ok (.iload_n 1, 1) := by decide +kernel
theorem dX13_compile_68 : decode cX13_compile 68 = .ok (.putfield 325, 3) := by decide +kernel
theorem dX13_compile_71 : decode cX13_compile 71 = .ok (.aload_n 0, 1) := by decide +kernel
theorem dX13_compile_72 : decode cX13_compile 72 = .ok (.invokevirtual 746, 3) := by decide +kernel
theorem dX13_compile_75 : decode cX13_compile 75 = .ok (.aload_n 0, 1) := by decide +kernel
theorem dX13_compile_76 : decode cX13_compile 76 = .ok (.getfield 319, 3) := by decide +kernel
theorem dX13_compile_79 : decode cX13_compile 79 = .ok (.ifCond .ne 7, 3) := by decide +kernel
theorem dX13_compile_82 : decode cX13_compile 82 = .ok (.aload_n 0, 1) := by decide +kernel
theorem dX13_compile_83 : decode cX13_compile 83 = .ok (.invokevirtual 749, 3) := by decide +kernel
theorem dX13_compile_86 : decode cX13_compile 86 = .ok (.aload_n 0, 1) := by decide +kernel
theorem dX13_compile_87 : decode cX13_compile 87 = .ok (.getfield 319, 3) := by decide +kernel
theorem dX13_compile_90 : decode cX13_compile 90 = .ok (.ifCond .ne 7, 3) := by decide +kernel
theorem dX13_compile_97 : decode cX13_compile 97 = .ok (.aload_n 0, 1) := by decide +kernel
theorem dX13_compile_98 : decode cX13_compile 98 = .ok (.getfield 319, 3) := by decide +kernel
theorem dX13_compile_101 : decode cX13_compile 101 = .ok (.ifCond .ne 7, 3) := by decide +kernel
theorem dX13_compile_108 : decode cX13_compile 108 = .ok (.iconst 0, 1) := by decide +kernel
theorem dX13_compile_109 : decode cX13_compile 109 = .ok (.istore_n 2, 1) := by decide +kernel
theorem dX13_compile_110 : decode cX13_compile 110 = .ok (.iload_n 2, 1) := by decide +kernel
theorem dX13_compile_111 : decode cX13_compile 111 = .ok (.aload_n 0, 1) := by decide +kernel
theorem dX13_compile_112 : decode cX13_compile 112 = .ok (.getfield 409, 3) := by decide +kernel
theorem dX13_compile_115 : decode cX13_compile 115 = .ok (.if_icmp .ge 21, 3) := by decide +kernel
theorem dX13_compile_136 : decode cX13_compile 136 = .ok (.aload_n 0, 1) := by decide +kernel
theorem dX13_compile_137 : decode cX13_compile 137 = .ok (.getfield 319, 3) := by decide +kernel
theorem dX13_compile_140 : decode cX13_compile 140 = .ok (.ifCond .eq 5, 3) := by decide +kernel
theorem dX13_compile_143 : decode cX13_compile 143 = .ok (.iconst (-1), 1) := by decide +kernel
theorem dX13_compile_144 : decode cX13_compile 144 = .ok (.ireturn, 1) := by decide +kernel
theorem dX13_loaded_0 : decode cX13_loaded 0 = .ok (.aload_n 0, 1) := by decide +kernel
theorem dX13_loaded_1 : decode cX13_loaded 1 = .ok (.getfield 833, 3) := by decide +kernel
theorem dX13_loaded_4 : decode cX13_loaded 4 = .ok (.bipush 8, 2) := by decide +kernel
theorem dX13_loaded_6 : decode cX13_loaded 6 = .ok (.if_icmp .ne 40, 3) := by decide +kernel
theorem dX13_loaded_46 : decode cX13_loaded 46 = .ok (.aload_n 0, 1) := by decide +kernel
theorem dX13_loaded_47 : decode cX13_loaded 47 = .ok (.aload_n 0, 1) := by decide +kernel
theorem dX13_loaded_48 : decode cX13_loaded 48 = .ok (.getfield 833, 3) := by decide +kernel
theorem dX13_loaded_51 : decode cX13_loaded 51 = .ok (.invokevirtual 843, 3) := by decide +kernel
theorem dX13_loaded_54 : decode cX13_loaded 54 = .ok (.aload_n 0, 1) := by decide +kernel
theorem dX13_loaded_55 : decode cX13_loaded 55 = .ok (.getfield 764, 3) := by decide +kernel
theorem dX13_loaded_58 : decode cX13_loaded 58 = .ok (.iconst (-1), 1) := by decide +kernel
theorem dX13_loaded_59 : decode cX13_loaded 59 = .ok (.if_icmp .eq 11, 3) := by decide +kernel
theorem dX13_loaded_62 : decode cX13_loaded 62 = .ok (.bipush (-2), 2) := by decide +kernel
theorem dX13_loaded_64 : decode cX13_loaded 64 = .ok (.aload_n 0, 1) := by decide +kernel
theorem dX13_loaded_65 : decode cX13_loaded 65 = .ok (.getfield 764, 3) := by decide +kernel
theorem dX13_loaded_68 : decode cX13_loaded 68 = .ok (.isub, 1) := by decide +kernel
theorem dX13_loaded_69 : decode cX13_loaded 69 = .ok (.ireturn, 1) := by decide +kernel
theorem dX13_load_0 : decode cX13_load 0 = .ok (.aload_n 0, 1) := by decide +kernel
theorem dX13_load_1 : decode cX13_load 1 = .ok (.aload_n 0, 1) := by decide +kernel
theorem dX13_load_2 : decode cX13_load 2 = .ok (.getfield 312, 3) := by decide +kernel
theorem dX13_load_5 : decode cX13_load 5 = .ok (.putfield 767, 3) := by decide +kernel
theorem dX13_load_8 : decode cX13_load 8 = .ok (.iconst 0, 1) := by decide +kernel
theorem dX13_load_9 : decode cX13_load 9 = .ok (.istore_n 1, 1) := by decide +kernel
theorem dX13_load_10 : decode cX13_load 10 = .ok (.iload_n 1, 1) := by decide +kernel
theorem dX13_load_11 : decode cX13_load 11 = .ok (.aload_n 0, 1) := by decide +kernel
theorem dX13_load_12 : decode cX13_load 12 = .ok (.getfield 312, 3) := by decide +kernel
theorem dX13_load_15 : decode cX13_load 15 = .ok (.if_icmp .ge 21, 3) := by decide +kernel
theorem dX13_load_36 : decode cX13_load 36 = .ok (.aload_n 0, 1) := by decide +kernel
theorem dX13_load_37 : decode cX13_load 37 = .ok (.iconst 0, 1) := by decide +kernel
theorem dX13_load_38 : decode cX13_load 38 = .ok (.putfield 312, 3) := by decide +kernel
theorem dX13_load_41 : decode cX13_load 41 = .ok (.aload_n 0, 1) := by decide +kernel
theorem dX13_load_42 : decode cX13_load 42 = .ok (.invokevirtual 861, 3) := by decide +kernel
theorem dX13_load_45 : decode cX13_load 45 = .ok (.ireturn, 1) := by decide +kernel
def VS_c3_p0 : List Cond := [Cond.code yX13_scan cX13_scan 5 none, Cond.methodLink RX13 843 yX13_scan, Cond.instanceMethod yX13_scan, Cond.selects RX13 yX13_scan yX13_scan, Cond.initialized RX13, Cond.fieldLink RX13 833 "ClassMillModel" "there" "I", Cond.fieldLink RX13 764 "ClassMillModel" "form" "I", Cond.code yX13_loaded cX13_loaded 3 (some .int), Cond.methodLink RX13 861 yX13_loaded, Cond.instanceMethod yX13_loaded, Cond.selects RX13 yX13_loaded yX13_loaded, Cond.fieldLink RX13 312 "ClassMillModel" "taped" "I", Cond.fieldLink RX13 767 "ClassMillModel" "lookSize" "I", Cond.fieldLink RX13 319 "ClassMillModel" "fault" "I", Cond.fieldLink RX13 19 "ClassMillModel" "from" "[I", Cond.fieldLink RX13 322 "ClassMillModel" "place" "I", Cond.code yX13_wrong cX13_wrong 3 none, Cond.methodLink RX13 379 yX13_wrong, Cond.instanceMethod yX13_wrong, Cond.selects RX13 yX13_wrong yX13_wrong, Cond.fieldLink RX13 16 "ClassMillModel" "kind" "[I", Cond.fieldLink RX13 376 "ClassMillModel" "cursor" "I", Cond.code yX13_isWord cX13_isWord 3 (some .boolean), Cond.methodLink RX13 390 yX13_isWord, Cond.instanceMethod yX13_isWord, Cond.selects RX13 yX13_isWord yX13_isWord, Cond.code yX13_misplaced cX13_misplaced 1 none, Cond.methodLink RX13 387 yX13_misplaced, Cond.instanceMethod yX13_misplaced, Cond.selects RX13 yX13_misplaced yX13_misplaced, Cond.code yX13_word cX13_word 2 none, Cond.methodLink RX13 418 yX13_word, Cond.instanceMethod yX13_word, Cond.selects RX13 yX13_word yX13_word, Cond.code yX13_name cX13_name 1 (some .int), Cond.methodLink RX13 403 yX13_name, Cond.instanceMethod yX13_name, Cond.selects RX13 yX13_name yX13_name, Cond.fieldLink RX13 409 "ClassMillModel" "classes" "I", Cond.fieldLink RX13 412 "ClassMillModel" "members" "I"]
def VS_c3_p1 : List Cond := [Cond.fieldLink RX13 415 "ClassMillModel" "parameters" "I", Cond.fieldLink RX13 373 "ClassMillModel" "nodes" "I", Cond.fieldLink RX13 338 "ClassMillModel" "tokens" "I", Cond.fieldLink RX13 22 "ClassMillModel" "wide" "[I", Cond.fieldLink RX13 25 "ClassMillModel" "value" "[I", Cond.code yX13_token cX13_token 5 none, Cond.methodLink RX13 358 yX13_token, Cond.instanceMethod yX13_token, Cond.selects RX13 yX13_token yX13_token, Cond.fieldLink RX13 325 "ClassMillModel" "size" "I", Cond.code yX13_tokenize cX13_tokenize 7 none, Cond.methodLink RX13 746 yX13_tokenize, Cond.instanceMethod yX13_tokenize, Cond.selects RX13 yX13_tokenize yX13_tokenize, Cond.code yX13_program cX13_program 3 none, Cond.methodLink RX13 749 yX13_program, Cond.instanceMethod yX13_program, Cond.selects RX13 yX13_program yX13_program]
def VS_c3 : List Cond := VS_c3_p0 ++ (VS_c3_p1 ++ (wsX130 ++ (VS_c2)))
theorem mw_c3_0 : Cond.code yX13_scan cX13_scan 5 none ∈ VS_c3 := List.mem_append_left _ (List.mem_of_getElem? (i := 0) rfl)
theorem mw_c3_1 : Cond.methodLink RX13 843 yX13_scan ∈ VS_c3 := List.mem_append_left _ (List.mem_of_getElem? (i := 1) rfl)
theorem mw_c3_2 : Cond.instanceMethod yX13_scan ∈ VS_c3 := List.mem_append_left _ (List.mem_of_getElem? (i := 2) rfl)
theorem mw_c3_3 : Cond.selects RX13 yX13_scan yX13_scan ∈ VS_c3 := List.mem_append_left _ (List.mem_of_getElem? (i := 3) rfl)
theorem mw_c3_4 : Cond.initialized RX13 ∈ VS_c3 := List.mem_append_left _ (List.mem_of_getElem? (i := 4) rfl)
theorem mw_c3_5 : Cond.fieldLink RX13 833 "ClassMillModel" "there" "I" ∈ VS_c3 := List.mem_append_left _ (List.mem_of_getElem? (i := 5) rfl)
theorem mw_c3_6 : Cond.fieldLink RX13 764 "ClassMillModel" "form" "I" ∈ VS_c3 := List.mem_append_left _ (List.mem_of_getElem? (i := 6) rfl)
theorem mw_c3_7 : Cond.code yX13_loaded cX13_loaded 3 (some .int) ∈ VS_c3 := List.mem_append_left _ (List.mem_of_getElem? (i := 7) rfl)
theorem mw_c3_8 : Cond.methodLink RX13 861 yX13_loaded ∈ VS_c3 := List.mem_append_left _ (List.mem_of_getElem? (i := 8) rfl)
theorem mw_c3_9 : Cond.instanceMethod yX13_loaded ∈ VS_c3 := List.mem_append_left _ (List.mem_of_getElem? (i := 9) rfl)
theorem mw_c3_10 : Cond.selects RX13 yX13_loaded yX13_loaded ∈ VS_c3 := List.mem_append_left _ (List.mem_of_getElem? (i := 10) rfl)
theorem mw_c3_11 : Cond.fieldLink RX13 312 "ClassMillModel" "taped" "I" ∈ VS_c3 := List.mem_append_left _ (List.mem_of_getElem? (i := 11) rfl)
theorem mw_c3_12 : Cond.fieldLink RX13 767 "ClassMillModel" "lookSize" "I" ∈ VS_c3 := List.mem_append_left _ (List.mem_of_getElem? (i := 12) rfl)
theorem mw_c3_13 : Cond.fieldLink RX13 319 "ClassMillModel" "fault" "I" ∈ VS_c3 := List.mem_append_left _ (List.mem_of_getElem? (i := 13) rfl)
theorem mw_c3_14 : Cond.fieldLink RX13 19 "ClassMillModel" "from" "[I" ∈ VS_c3 := List.mem_append_left _ (List.mem_of_getElem? (i := 14) rfl)
theorem mw_c3_15 : Cond.fieldLink RX13 322 "ClassMillModel" "place" "I" ∈ VS_c3 := List.mem_append_left _ (List.mem_of_getElem? (i := 15) rfl)
theorem mw_c3_16 : Cond.code yX13_wrong cX13_wrong 3 none ∈ VS_c3 := List.mem_append_left _ (List.mem_of_getElem? (i := 16) rfl)
theorem mw_c3_17 : Cond.methodLink RX13 379 yX13_wrong ∈ VS_c3 := List.mem_append_left _ (List.mem_of_getElem? (i := 17) rfl)
theorem mw_c3_18 : Cond.instanceMethod yX13_wrong ∈ VS_c3 := List.mem_append_left _ (List.mem_of_getElem? (i := 18) rfl)
theorem mw_c3_19 : Cond.selects RX13 yX13_wrong yX13_wrong ∈ VS_c3 := List.mem_append_left _ (List.mem_of_getElem? (i := 19) rfl)
theorem mw_c3_20 : Cond.fieldLink RX13 16 "ClassMillModel" "kind" "[I" ∈ VS_c3 := List.mem_append_left _ (List.mem_of_getElem? (i := 20) rfl)
theorem mw_c3_21 : Cond.fieldLink RX13 376 "ClassMillModel" "cursor" "I" ∈ VS_c3 := List.mem_append_left _ (List.mem_of_getElem? (i := 21) rfl)
theorem mw_c3_22 : Cond.code yX13_isWord cX13_isWord 3 (some .boolean) ∈ VS_c3 := List.mem_append_left _ (List.mem_of_getElem? (i := 22) rfl)
theorem mw_c3_23 : Cond.methodLink RX13 390 yX13_isWord ∈ VS_c3 := List.mem_append_left _ (List.mem_of_getElem? (i := 23) rfl)
theorem mw_c3_24 : Cond.instanceMethod yX13_isWord ∈ VS_c3 := List.mem_append_left _ (List.mem_of_getElem? (i := 24) rfl)
theorem mw_c3_25 : Cond.selects RX13 yX13_isWord yX13_isWord ∈ VS_c3 := List.mem_append_left _ (List.mem_of_getElem? (i := 25) rfl)
theorem mw_c3_26 : Cond.code yX13_misplaced cX13_misplaced 1 none ∈ VS_c3 := List.mem_append_left _ (List.mem_of_getElem? (i := 26) rfl)
theorem mw_c3_27 : Cond.methodLink RX13 387 yX13_misplaced ∈ VS_c3 := List.mem_append_left _ (List.mem_of_getElem? (i := 27) rfl)
theorem mw_c3_28 : Cond.instanceMethod yX13_misplaced ∈ VS_c3 := List.mem_append_left _ (List.mem_of_getElem? (i := 28) rfl)
theorem mw_c3_29 : Cond.selects RX13 yX13_misplaced yX13_misplaced ∈ VS_c3 := List.mem_append_left _ (List.mem_of_getElem? (i := 29) rfl)
theorem mw_c3_30 : Cond.code yX13_word cX13_word 2 none ∈ VS_c3 := List.mem_append_left _ (List.mem_of_getElem? (i := 30) rfl)
theorem mw_c3_31 : Cond.methodLink RX13 418 yX13_word ∈ VS_c3 := List.mem_append_left _ (List.mem_of_getElem? (i := 31) rfl)
theorem mw_c3_32 : Cond.instanceMethod yX13_word ∈ VS_c3 := List.mem_append_left _ (List.mem_of_getElem? (i := 32) rfl)
theorem mw_c3_33 : Cond.selects RX13 yX13_word yX13_word ∈ VS_c3 := List.mem_append_left _ (List.mem_of_getElem? (i := 33) rfl)
theorem mw_c3_34 : Cond.code yX13_name cX13_name 1 (some .int) ∈ VS_c3 := List.mem_append_left _ (List.mem_of_getElem? (i := 34) rfl)
theorem mw_c3_35 : Cond.methodLink RX13 403 yX13_name ∈ VS_c3 := List.mem_append_left _ (List.mem_of_getElem? (i := 35) rfl)
theorem mw_c3_36 : Cond.instanceMethod yX13_name ∈ VS_c3 := List.mem_append_left _ (List.mem_of_getElem? (i := 36) rfl)
theorem mw_c3_37 : Cond.selects RX13 yX13_name yX13_name ∈ VS_c3 := List.mem_append_left _ (List.mem_of_getElem? (i := 37) rfl)
theorem mw_c3_38 : Cond.fieldLink RX13 409 "ClassMillModel" "classes" "I" ∈ VS_c3 := List.mem_append_left _ (List.mem_of_getElem? (i := 38) rfl)
theorem mw_c3_39 : Cond.fieldLink RX13 412 "ClassMillModel" "members" "I" ∈ VS_c3 := List.mem_append_left _ (List.mem_of_getElem? (i := 39) rfl)
theorem mw_c3_40 : Cond.fieldLink RX13 415 "ClassMillModel" "parameters" "I" ∈ VS_c3 := List.mem_append_right _ (List.mem_append_left _ (List.mem_of_getElem? (i := 0) rfl))
theorem mw_c3_41 : Cond.fieldLink RX13 373 "ClassMillModel" "nodes" "I" ∈ VS_c3 := List.mem_append_right _ (List.mem_append_left _ (List.mem_of_getElem? (i := 1) rfl))
theorem mw_c3_42 : Cond.fieldLink RX13 338 "ClassMillModel" "tokens" "I" ∈ VS_c3 := List.mem_append_right _ (List.mem_append_left _ (List.mem_of_getElem? (i := 2) rfl))
theorem mw_c3_43 : Cond.fieldLink RX13 22 "ClassMillModel" "wide" "[I" ∈ VS_c3 := List.mem_append_right _ (List.mem_append_left _ (List.mem_of_getElem? (i := 3) rfl))
theorem mw_c3_44 : Cond.fieldLink RX13 25 "ClassMillModel" "value" "[I" ∈ VS_c3 := List.mem_append_right _ (List.mem_append_left _ (List.mem_of_getElem? (i := 4) rfl))
theorem mw_c3_45 : Cond.code yX13_token cX13_token 5 none ∈ VS_c3 := List.mem_append_right _ (List.mem_append_left _ (List.mem_of_getElem? (i := 5) rfl))
theorem mw_c3_46 : Cond.methodLink RX13 358 yX13_token ∈ VS_c3 := List.mem_append_right _ (List.mem_append_left _ (List.mem_of_getElem? (i := 6) rfl))
theorem mw_c3_47 : Cond.instanceMethod yX13_token ∈ VS_c3 := List.mem_append_right _ (List.mem_append_left _ (List.mem_of_getElem? (i := 7) rfl))
theorem mw_c3_48 : Cond.selects RX13 yX13_token yX13_token ∈ VS_c3 := List.mem_append_right _ (List.mem_append_left _ (List.mem_of_getElem? (i := 8) rfl))
theorem mw_c3_49 : Cond.fieldLink RX13 325 "ClassMillModel" "size" "I" ∈ VS_c3 := List.mem_append_right _ (List.mem_append_left _ (List.mem_of_getElem? (i := 9) rfl))
theorem mw_c3_50 : Cond.code yX13_tokenize cX13_tokenize 7 none ∈ VS_c3 := List.mem_append_right _ (List.mem_append_left _ (List.mem_of_getElem? (i := 10) rfl))
theorem mw_c3_51 : Cond.methodLink RX13 746 yX13_tokenize ∈ VS_c3 := List.mem_append_right _ (List.mem_append_left _ (List.mem_of_getElem? (i := 11) rfl))
theorem mw_c3_52 : Cond.instanceMethod yX13_tokenize ∈ VS_c3 := List.mem_append_right _ (List.mem_append_left _ (List.mem_of_getElem? (i := 12) rfl))
theorem mw_c3_53 : Cond.selects RX13 yX13_tokenize yX13_tokenize ∈ VS_c3 := List.mem_append_right _ (List.mem_append_left _ (List.mem_of_getElem? (i := 13) rfl))
theorem mw_c3_54 : Cond.code yX13_program cX13_program 3 none ∈ VS_c3 := List.mem_append_right _ (List.mem_append_left _ (List.mem_of_getElem? (i := 14) rfl))
theorem mw_c3_55 : Cond.methodLink RX13 749 yX13_program ∈ VS_c3 := List.mem_append_right _ (List.mem_append_left _ (List.mem_of_getElem? (i := 15) rfl))
theorem mw_c3_56 : Cond.instanceMethod yX13_program ∈ VS_c3 := List.mem_append_right _ (List.mem_append_left _ (List.mem_of_getElem? (i := 16) rfl))
theorem mw_c3_57 : Cond.selects RX13 yX13_program yX13_program ∈ VS_c3 := List.mem_append_right _ (List.mem_append_left _ (List.mem_of_getElem? (i := 17) rfl))
theorem uV_c3_X13 : ∀ w ∈ u_ws RX13 TX13 155, w ∈ VS_c3 := fun w h => List.mem_append_right _ (List.mem_append_right _ (List.mem_append_left _ (h)))
set_option maxRecDepth 100000 in
theorem gs_c3 : GoodIn VS_c3 VS_c3 := vs_self (by decide +kernel)
set_option maxRecDepth 100000 in
theorem in_c3_VS_c2 : GoodIn VS_c3 VS_c2 := goodIn_sub (fun w h => List.mem_append_right _ (List.mem_append_right _ (List.mem_append_right _ (h)))) (by decide +kernel)
theorem gv_c3_0 : GoodIn VS_c3 (wsV RX13 843 RX13 yX13_scan (.code yX13_scan cX13_scan 5 none :: VS_c2)) := goodIn_app (vs_in4 mw_c3_1 mw_c3_2 mw_c3_3 mw_c3_4 (by decide +kernel)) (vs_cons mw_c3_0 (by decide +kernel) in_c3_VS_c2)
theorem gv_c3_1 : GoodIn VS_c3 (wsV RX13 861 RX13 yX13_loaded (.code yX13_loaded cX13_loaded 3 (some .int) :: VS_c3)) := goodIn_app (vs_in4 mw_c3_8 mw_c3_9 mw_c3_10 mw_c3_4 (by decide +kernel)) (vs_cons mw_c3_7 (by decide +kernel) gs_c3)
theorem gv_c3_2 : GoodIn VS_c3 (wsV RX13 379 RX13 yX13_wrong (.code yX13_wrong cX13_wrong 3 none :: VS_c3)) := goodIn_app (vs_in4 mw_c3_17 mw_c3_18 mw_c3_19 mw_c3_4 (by decide +kernel)) (vs_cons mw_c3_16 (by decide +kernel) gs_c3)
theorem gv_c3_3 : GoodIn VS_c3 (wsV RX13 390 RX13 yX13_isWord (.code yX13_isWord cX13_isWord 3 (some .boolean) :: VS_c3)) := goodIn_app (vs_in4 mw_c3_23 mw_c3_24 mw_c3_25 mw_c3_4 (by decide +kernel)) (vs_cons mw_c3_22 (by decide +kernel) gs_c3)
theorem gv_c3_4 : GoodIn VS_c3 (wsV RX13 387 RX13 yX13_misplaced (.code yX13_misplaced cX13_misplaced 1 none :: VS_c3)) := goodIn_app (vs_in4 mw_c3_27 mw_c3_28 mw_c3_29 mw_c3_4 (by decide +kernel)) (vs_cons mw_c3_26 (by decide +kernel) gs_c3)
theorem gv_c3_5 : GoodIn VS_c3 (wsV RX13 418 RX13 yX13_word (.code yX13_word cX13_word 2 none :: VS_c3)) := goodIn_app (vs_in4 mw_c3_31 mw_c3_32 mw_c3_33 mw_c3_4 (by decide +kernel)) (vs_cons mw_c3_30 (by decide +kernel) gs_c3)
theorem gv_c3_6 : GoodIn VS_c3 (wsV RX13 403 RX13 yX13_name (.code yX13_name cX13_name 1 (some .int) :: VS_c3)) := goodIn_app (vs_in4 mw_c3_35 mw_c3_36 mw_c3_37 mw_c3_4 (by decide +kernel)) (vs_cons mw_c3_34 (by decide +kernel) gs_c3)
theorem gv_c3_7 : GoodIn VS_c3 (wsV RX13 358 RX13 yX13_token (.code yX13_token cX13_token 5 none :: VS_c3)) := goodIn_app (vs_in4 mw_c3_46 mw_c3_47 mw_c3_48 mw_c3_4 (by decide +kernel)) (vs_cons mw_c3_45 (by decide +kernel) gs_c3)
theorem gv_c3_8 : GoodIn VS_c3 (wsV RX13 746 RX13 yX13_tokenize (.code yX13_tokenize cX13_tokenize 7 none :: VS_c3)) := goodIn_app (vs_in4 mw_c3_51 mw_c3_52 mw_c3_53 mw_c3_4 (by decide +kernel)) (vs_cons mw_c3_50 (by decide +kernel) gs_c3)
theorem gv_c3_9 : GoodIn VS_c3 (wsV RX13 749 RX13 yX13_program (.code yX13_program cX13_program 3 none :: VS_c3)) := goodIn_app (vs_in4 mw_c3_55 mw_c3_56 mw_c3_57 mw_c3_4 (by decide +kernel)) (vs_cons mw_c3_54 (by decide +kernel) gs_c3)
