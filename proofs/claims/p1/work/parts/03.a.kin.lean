def tyX4 : Nat → FieldType := fun k => match k with
  | 0 => .array .int
  | _ => .array .boolean
abbrev wsX40 : List Cond := u_ws RX4 TX4 2
theorem nmX4 : ∀ a, a < 2 → ∀ b, b < 2 → a ≠ b → (TX4 a).2.1 ≠ (TX4 b).2.1 := by decide +kernel
theorem tyX4_ok : ∀ k, k < 2 → parseFieldDescriptor (TX4 k).2.2.1 = some (tyX4 k) := by decide +kernel
abbrev cX4_init : ByteArray := prog_6_method_1_code
def yX4_init : MethodName := ⟨RX4, "<init>", "()V"⟩
abbrev cX4_forget : ByteArray := prog_6_method_2_code
def yX4_forget : MethodName := ⟨RX4, "forget", "()V"⟩
abbrev cX4_settle : ByteArray := prog_6_method_5_code
def yX4_settle : MethodName := ⟨RX4, "settle", "()V"⟩
def wsX4_settle : List Cond := .code yX4_settle cX4_settle 4 none :: ([.fieldLink RX4 15 "ClassMill$Kin" "under" "[Z", .fieldLink RX4 11 "ClassMill$Kin" "above" "[I"] ++ wsX40)
def wsX4_forget : List Cond := .code yX4_forget cX4_forget 2 none :: ([.fieldLink RX4 11 "ClassMill$Kin" "above" "[I", .methodLink RX4 22 yJ7_fill_53178, .static yJ7_fill_53178, .initialized RJ7, .code yJ7_fill_53178 cJ7_fill_53178 4 none, .methodLink RX4 28 yX4_settle, .instanceMethod yX4_settle, .selects RX4 yX4_settle yX4_settle, .initialized RX4, .code yX4_settle cX4_settle 4 none, .fieldLink RX4 15 "ClassMill$Kin" "under" "[Z"] ++ wsX40)
def wsX4_init : List Cond := .code yX4_init cX4_init 1 none :: ([.methodLink RX4 3 objectInit, .instanceMethod objectInit, .code objectInit ⟨#[0xb1]⟩ 1 none, .arrayClass .int, .fieldLink RX4 11 "ClassMill$Kin" "above" "[I", .arrayClass .boolean, .fieldLink RX4 15 "ClassMill$Kin" "under" "[Z", .methodLink RX4 19 yX4_forget, .instanceMethod yX4_forget, .selects RX4 yX4_forget yX4_forget, .initialized RX4, .code yX4_forget cX4_forget 2 none, .methodLink RX4 22 yJ7_fill_53178, .static yJ7_fill_53178, .initialized RJ7, .code yJ7_fill_53178 cJ7_fill_53178 4 none, .methodLink RX4 28 yX4_settle, .instanceMethod yX4_settle, .selects RX4 yX4_settle yX4_settle, .code yX4_settle cX4_settle 4 none] ++ wsX40)
set_option maxRecDepth 20000 in
theorem ggX4_init_X4_forget : GoodIn wsX4_init wsX4_forget := goodIn_r _ [12, 5, 13, 14, 15, 16, 17, 18, 19, 11, 20, 7, 21, 22] (by decide +kernel) (by decide +kernel)
set_option maxRecDepth 20000 in
theorem gX4_init_X4_forget : GoodIn wsX4_init (wsV RX4 19 RX4 yX4_forget wsX4_forget) := goodIn_app (goodIn_of _ (by decide +kernel)) ggX4_init_X4_forget
theorem dX4_init_0 : decode cX4_init 0 = .ok (.aload_n 0, 1) := by decide +kernel
theorem dX4_init_1 : decode cX4_init 1 = .ok (.invokespecial 3, 3) := by decide +kernel
theorem dX4_init_4 : decode cX4_init 4 = .ok (.aload_n 0, 1) := by decide +kernel
theorem dX4_init_5 : decode cX4_init 5 = .ok (.bipush 16, 2) := by decide +kernel
theorem dX4_init_7 : decode cX4_init 7 = .ok (.newarray .int, 2) := by decide +kernel
theorem dX4_init_9 : decode cX4_init 9 = .ok (.putfield 11, 3) := by decide +kernel
theorem dX4_init_12 : decode cX4_init 12 = .ok (.aload_n 0, 1) := by decide +kernel
theorem dX4_init_13 : decode cX4_init 13 = .ok (.sipush 256, 3) := by decide +kernel
theorem dX4_init_16 : decode cX4_init 16 = .ok (.newarray .boolean, 2) := by decide +kernel
theorem dX4_init_18 : decode cX4_init 18 = .ok (.putfield 15, 3) := by decide +kernel
theorem dX4_init_21 : decode cX4_init 21 = .ok (.aload_n 0, 1) := by decide +kernel
theorem dX4_init_22 : decode cX4_init 22 = .ok (.invokevirtual 19, 3) := by decide +kernel
theorem dX4_init_25 : decode cX4_init 25 = .ok (.return_, 1) := by decide +kernel
set_option maxRecDepth 20000 in
theorem ggX4_forget_J7_fill_53178 : GoodIn wsX4_forget wsJ7_fill_53178 := goodIn_r _ [5] (by decide +kernel) (by decide +kernel)
set_option maxRecDepth 20000 in
theorem gX4_forget_J7_fill_53178 : GoodIn wsX4_forget (va_wsS RX4 22 yJ7_fill_53178 wsJ7_fill_53178) := goodIn_app (goodIn_of _ (by decide +kernel)) ggX4_forget_J7_fill_53178
set_option maxRecDepth 20000 in
theorem ggX4_forget_X4_settle : GoodIn wsX4_forget wsX4_settle := goodIn_r _ [10, 11, 1, 12, 13] (by decide +kernel) (by decide +kernel)
set_option maxRecDepth 20000 in
theorem gX4_forget_X4_settle : GoodIn wsX4_forget (wsV RX4 28 RX4 yX4_settle wsX4_settle) := goodIn_app (goodIn_of _ (by decide +kernel)) ggX4_forget_X4_settle
theorem dX4_forget_0 : decode cX4_forget 0 = .ok (.aload_n 0, 1) := by decide +kernel
theorem dX4_forget_1 : decode cX4_forget 1 = .ok (.getfield 11, 3) := by decide +kernel
theorem dX4_forget_4 : decode cX4_forget 4 = .ok (.iconst (-1), 1) := by decide +kernel
theorem dX4_forget_5 : decode cX4_forget 5 = .ok (.invokestatic 22, 3) := by decide +kernel
theorem dX4_forget_8 : decode cX4_forget 8 = .ok (.iconst 1, 1) := by decide +kernel
theorem dX4_forget_9 : decode cX4_forget 9 = .ok (.istore_n 1, 1) := by decide +kernel
theorem dX4_forget_10 : decode cX4_forget 10 = .ok (.iload_n 1, 1) := by decide +kernel
theorem dX4_forget_11 : decode cX4_forget 11 = .ok (.bipush 8, 2) := by decide +kernel
theorem dX4_forget_13 : decode cX4_forget 13 = .ok (.if_icmp .ge 25, 3) := by decide +kernel
theorem dX4_forget_16 : decode cX4_forget 16 = .ok (.aload_n 0, 1) := by decide +kernel
theorem dX4_forget_17 : decode cX4_forget 17 = .ok (.getfield 11, 3) := by decide +kernel
theorem dX4_forget_20 : decode cX4_forget 20 = .ok (.iload_n 1, 1) := by decide +kernel
theorem dX4_forget_21 : decode cX4_forget 21 = .ok (.iload_n 1, 1) := by decide +kernel
theorem dX4_forget_22 : decode cX4_forget 22 = .ok (.iconst 1, 1) := by decide +kernel
theorem dX4_forget_23 : decode cX4_forget 23 = .ok (.if_icmp .ne 7, 3) := by decide +kernel
theorem dX4_forget_26 : decode cX4_forget 26 = .ok (.iconst 0, 1) := by decide +kernel
theorem dX4_forget_27 : decode cX4_forget 27 = .ok (.goto 4, 3) := by decide +kernel
theorem dX4_forget_30 : decode cX4_forget 30 = .ok (.iconst 1, 1) := by decide +kernel
theorem dX4_forget_31 : decode cX4_forget 31 = .ok (.iastore, 1) := by decide +kernel
theorem dX4_forget_32 : decode cX4_forget 32 = .ok (.iinc 1 1, 3) := by decide +kernel
theorem dX4_forget_35 : decode cX4_forget 35 = .ok (.goto (-25), 3) := by decide +kernel
theorem dX4_forget_38 : decode cX4_forget 38 = .ok (.aload_n 0, 1) := by decide +kernel
theorem dX4_forget_39 : decode cX4_forget 39 = .ok (.invokevirtual 28, 3) := by decide +kernel
theorem dX4_forget_42 : decode cX4_forget 42 = .ok (.return_, 1) := by decide +kernel
theorem dX4_settle_0 : decode cX4_settle 0 = .ok (.iconst 0, 1) := by decide +kernel
theorem dX4_settle_1 : decode cX4_settle 1 = .ok (.istore_n 1, 1) := by decide +kernel
theorem dX4_settle_2 : decode cX4_settle 2 = .ok (.iload_n 1, 1) := by decide +kernel
theorem dX4_settle_3 : decode cX4_settle 3 = .ok (.bipush 16, 2) := by decide +kernel
theorem dX4_settle_5 : decode cX4_settle 5 = .ok (.if_icmp .ge 80, 3) := by decide +kernel
theorem dX4_settle_8 : decode cX4_settle 8 = .ok (.iconst 0, 1) := by decide +kernel
theorem dX4_settle_9 : decode cX4_settle 9 = .ok (.istore_n 2, 1) := by decide +kernel
theorem dX4_settle_10 : decode cX4_settle 10 = .ok (.iload_n 2, 1) := by decide +kernel
theorem dX4_settle_11 : decode cX4_settle 11 = .ok (.bipush 16, 2) := by decide +kernel
theorem dX4_settle_13 : decode cX4_settle 13 = .ok (.if_icmp .ge 21, 3) := by decide +kernel
theorem dX4_settle_16 : decode cX4_settle 16 = .ok (.aload_n 0, 1) := by decide +kernel
theorem dX4_settle_17 : decode cX4_settle 17 = .ok (.getfield 15, 3) := by decide +kernel
theorem dX4_settle_20 : decode cX4_settle 20 = .ok (.iload_n 1, 1) := by decide +kernel
theorem dX4_settle_21 : decode cX4_settle 21 = .ok (.bipush 16, 2) := by decide +kernel
theorem dX4_settle_23 : decode cX4_settle 23 = .ok (.imul, 1) := by decide +kernel
theorem dX4_settle_24 : decode cX4_settle 24 = .ok (.iload_n 2, 1) := by decide +kernel
theorem dX4_settle_25 : decode cX4_settle 25 = .ok (.iadd, 1) := by decide +kernel
theorem dX4_settle_26 : decode cX4_settle 26 = .ok (.iconst 0, 1) := by decide +kernel
theorem dX4_settle_27 : decode cX4_settle 27 = .ok (.bastore, 1) := by decide +kernel
theorem dX4_settle_28 : decode cX4_settle 28 = .ok (.iinc 2 1, 3) := by decide +kernel
theorem dX4_settle_31 : decode cX4_settle 31 = .ok (.goto (-21), 3) := by decide +kernel
theorem dX4_settle_34 : decode cX4_settle 34 = .ok (.iload_n 1, 1) := by decide +kernel
theorem dX4_settle_35 : decode cX4_settle 35 = .ok (.istore_n 2, 1) := by decide +kernel
theorem dX4_settle_36 : decode cX4_settle 36 = .ok (.iconst 0, 1) := by decide +kernel
theorem dX4_settle_37 : decode cX4_settle 37 = .ok (.istore_n 3, 1) := by decide +kernel
theorem dX4_settle_38 : decode cX4_settle 38 = .ok (.iload_n 3, 1) := by decide +kernel
theorem dX4_settle_39 : decode cX4_settle 39 = .ok (.bipush 16, 2) := by decide +kernel
theorem dX4_settle_41 : decode cX4_settle 41 = .ok (.if_icmp .ge 38, 3) := by decide +kernel
theorem dX4_settle_44 : decode cX4_settle 44 = .ok (.iload_n 2, 1) := by decide +kernel
theorem dX4_settle_45 : decode cX4_settle 45 = .ok (.ifCond .lt 34, 3) := by decide +kernel
theorem dX4_settle_48 : decode cX4_settle 48 = .ok (.iload_n 2, 1) := by decide +kernel
theorem dX4_settle_49 : decode cX4_settle 49 = .ok (.bipush 16, 2) := by decide +kernel
theorem dX4_settle_51 : decode cX4_settle 51 = .ok (.if_icmp .ge 28, 3) := by decide +kernel
theorem dX4_settle_54 : decode cX4_settle 54 = .ok (.aload_n 0, 1) := by decide +kernel
theorem dX4_settle_55 : decode cX4_settle 55 = .ok (.getfield 15, 3) := by decide +kernel
theorem dX4_settle_58 : decode cX4_settle 58 = .ok (.iload_n 1, 1) := by decide +kernel
theorem dX4_settle_59 : decode cX4_settle 59 = .ok (.bipush 16, 2) := by decide +kernel
theorem dX4_settle_61 : decode cX4_settle 61 = .ok (.imul, 1) := by decide +kernel
theorem dX4_settle_62 : decode cX4_settle 62 = .ok (.iload_n 2, 1) := by decide +kernel
theorem dX4_settle_63 : decode cX4_settle 63 = .ok (.iadd, 1) := by decide +kernel
theorem dX4_settle_64 : decode cX4_settle 64 = .ok (.iconst 1, 1) := by decide +kernel
theorem dX4_settle_65 : decode cX4_settle 65 = .ok (.bastore, 1) := by decide +kernel
theorem dX4_settle_66 : decode cX4_settle 66 = .ok (.aload_n 0, 1) := by decide +kernel
theorem dX4_settle_67 : decode cX4_settle 67 = .ok (.getfield 11, 3) := by decide +kernel
theorem dX4_settle_70 : decode cX4_settle 70 = .ok (.iload_n 2, 1) := by decide +kernel
theorem dX4_settle_71 : decode cX4_settle 71 = .ok (.iaload, 1) := by decide +kernel
theorem dX4_settle_72 : decode cX4_settle 72 = .ok (.istore_n 2, 1) := by decide +kernel
theorem dX4_settle_73 : decode cX4_settle 73 = .ok (.iinc 3 1, 3) := by decide +kernel
theorem dX4_settle_76 : decode cX4_settle 76 = .ok (.goto (-38), 3) := by decide +kernel
theorem dX4_settle_79 : decode cX4_settle 79 = .ok (.iinc 1 1, 3) := by decide +kernel
theorem dX4_settle_82 : decode cX4_settle 82 = .ok (.goto (-80), 3) := by decide +kernel
theorem dX4_settle_85 : decode cX4_settle 85 = .ok (.return_, 1) := by decide +kernel
set_option maxRecDepth 20000 in
theorem uX4_forget_X4 : ∀ w ∈ u_ws RX4 TX4 2, w ∈ wsX4_forget := by decide +kernel
set_option maxRecDepth 20000 in
theorem uX4_init_X4 : ∀ w ∈ u_ws RX4 TX4 2, w ∈ wsX4_init := by decide +kernel
set_option maxRecDepth 20000 in
theorem uX4_settle_X4 : ∀ w ∈ u_ws RX4 TX4 2, w ∈ wsX4_settle := by decide +kernel
