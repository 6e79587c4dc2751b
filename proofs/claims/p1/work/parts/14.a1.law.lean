def tb_b (k : Nat) : List Cond := match k with
  | 0 => k2_sels lw_privs
  | 1 => tables_1_1
  | 2 => tables_1_2
  | 3 => tables_1_3
  | 4 => tables_1_4
  | 5 => tables_1_5
  | 6 => tables_1_6
  | 7 => tables_1_7
  | 8 => tables_1_8
  | 9 => tables_1_9
  | 10 => tables_1_10
  | 11 => tables_1_11
  | 12 => tables_1_12
  | 13 => tables_1_13
  | 14 => tables_1_14
  | 15 => tables_1_15
  | 16 => tables_1_16
  | _ => []
theorem tb_bi (k : Nat) : ∀ w ∈ tb_b k, w ∈ lw_tbl := fun w h => match k, h with
  | 0, h => List.mem_append_left _ h
  | 1, h => List.mem_append_right _ (show w ∈ tables_1 from List.mem_append_left _ h)
  | 2, h => List.mem_append_right _ (show w ∈ tables_1 from List.mem_append_right _ (List.mem_append_left _ h))
  | 3, h => List.mem_append_right _ (show w ∈ tables_1 from List.mem_append_right _ (List.mem_append_right _ (List.mem_append_left _ h)))
  | 4, h => List.mem_append_right _ (show w ∈ tables_1 from List.mem_append_right _ (List.mem_append_right _ (List.mem_append_right _ (List.mem_append_left _ h))))
  | 5, h => List.mem_append_right _ (show w ∈ tables_1 from List.mem_append_right _ (List.mem_append_right _ (List.mem_append_right _ (List.mem_append_right _ (List.mem_append_left _ h)))))
  | 6, h => List.mem_append_right _ (show w ∈ tables_1 from List.mem_append_right _ (List.mem_append_right _ (List.mem_append_right _ (List.mem_append_right _ (List.mem_append_right _ (List.mem_append_left _ h))))))
  | 7, h => List.mem_append_right _ (show w ∈ tables_1 from List.mem_append_right _ (List.mem_append_right _ (List.mem_append_right _ (List.mem_append_right _ (List.mem_append_right _ (List.mem_append_right _ (List.mem_append_left _ h)))))))
  | 8, h => List.mem_append_right _ (show w ∈ tables_1 from List.mem_append_right _ (List.mem_append_right _ (List.mem_append_right _ (List.mem_append_right _ (List.mem_append_right _ (List.mem_append_right _ (List.mem_append_right _ (List.mem_append_left _ h))))))))
  | 9, h => List.mem_append_right _ (show w ∈ tables_1 from List.mem_append_right _ (List.mem_append_right _ (List.mem_append_right _ (List.mem_append_right _ (List.mem_append_right _ (List.mem_append_right _ (List.mem_append_right _ (List.mem_append_right _ (List.mem_append_left _ h)))))))))
  | 10, h => List.mem_append_right _ (show w ∈ tables_1 from List.mem_append_right _ (List.mem_append_right _ (List.mem_append_right _ (List.mem_append_right _ (List.mem_append_right _ (List.mem_append_right _ (List.mem_append_right _ (List.mem_append_right _ (List.mem_append_right _ (List.mem_append_left _ h))))))))))
  | 11, h => List.mem_append_right _ (show w ∈ tables_1 from List.mem_append_right _ (List.mem_append_right _ (List.mem_append_right _ (List.mem_append_right _ (List.mem_append_right _ (List.mem_append_right _ (List.mem_append_right _ (List.mem_append_right _ (List.mem_append_right _ (List.mem_append_right _ (List.mem_append_left _ h)))))))))))
  | 12, h => List.mem_append_right _ (show w ∈ tables_1 from List.mem_append_right _ (List.mem_append_right _ (List.mem_append_right _ (List.mem_append_right _ (List.mem_append_right _ (List.mem_append_right _ (List.mem_append_right _ (List.mem_append_right _ (List.mem_append_right _ (List.mem_append_right _ (List.mem_append_right _ (List.mem_append_left _ h))))))))))))
  | 13, h => List.mem_append_right _ (show w ∈ tables_1 from List.mem_append_right _ (List.mem_append_right _ (List.mem_append_right _ (List.mem_append_right _ (List.mem_append_right _ (List.mem_append_right _ (List.mem_append_right _ (List.mem_append_right _ (List.mem_append_right _ (List.mem_append_right _ (List.mem_append_right _ (List.mem_append_right _ (List.mem_append_left _ h)))))))))))))
  | 14, h => List.mem_append_right _ (show w ∈ tables_1 from List.mem_append_right _ (List.mem_append_right _ (List.mem_append_right _ (List.mem_append_right _ (List.mem_append_right _ (List.mem_append_right _ (List.mem_append_right _ (List.mem_append_right _ (List.mem_append_right _ (List.mem_append_right _ (List.mem_append_right _ (List.mem_append_right _ (List.mem_append_right _ (List.mem_append_left _ h))))))))))))))
  | 15, h => List.mem_append_right _ (show w ∈ tables_1 from List.mem_append_right _ (List.mem_append_right _ (List.mem_append_right _ (List.mem_append_right _ (List.mem_append_right _ (List.mem_append_right _ (List.mem_append_right _ (List.mem_append_right _ (List.mem_append_right _ (List.mem_append_right _ (List.mem_append_right _ (List.mem_append_right _ (List.mem_append_right _ (List.mem_append_right _ (List.mem_append_left _ h)))))))))))))))
  | 16, h => List.mem_append_right _ (show w ∈ tables_1 from List.mem_append_right _ (List.mem_append_right _ (List.mem_append_right _ (List.mem_append_right _ (List.mem_append_right _ (List.mem_append_right _ (List.mem_append_right _ (List.mem_append_right _ (List.mem_append_right _ (List.mem_append_right _ (List.mem_append_right _ (List.mem_append_right _ (List.mem_append_right _ (List.mem_append_right _ (List.mem_append_right _ (h))))))))))))))))
  | _ + 17, h => absurd h List.not_mem_nil
theorem tb_r (ws : List Cond) (ps : List (Nat × Nat)) (hp : ws = ps.filterMap (fun q => (tb_b q.1)[q.2]?)) : ∀ w ∈ ws, w ∈ lw_tbl := by
  intro w hw
  rw [hp] at hw
  obtain ⟨q, -, hi⟩ := List.mem_filterMap.mp hw
  exact tb_bi q.1 w (List.mem_of_getElem? hi)
theorem tw_0 : Cond.laysStatic "java/lang/String" "COMPACT_STRINGS" "Z" ∈ lw_tbl := tb_bi 1 _ (List.mem_of_getElem? (l := tables_1_1) (i := 49) (by decide +kernel))
theorem tw_1 : Cond.initialized "java/lang/String" ∈ lw_tbl := tb_bi 1 _ (List.mem_of_getElem? (l := tables_1_1) (i := 4) (by decide +kernel))
theorem tw_2 : Cond.laysStatic "jdk/internal/util/Preconditions" "SIOOBE_FORMATTER" "Ljava/util/function/BiFunction;" ∈ lw_tbl := tb_bi 1 _ (List.mem_of_getElem? (l := tables_1_1) (i := 65) (by decide +kernel))
theorem tw_3 : Cond.initialized "jdk/internal/util/Preconditions" ∈ lw_tbl := tb_bi 1 _ (List.mem_of_getElem? (l := tables_1_1) (i := 6) (by decide +kernel))
theorem tw_4 : Cond.stringRef RX9 51 "Object Fault NullFault IndexFault ArithFault CastFault SizeFault StoreFault length boolean break catch class continue else extends false if instanceof int new null print return static this throw true try void while [I " ∈ lw_tbl := tb_bi 1 _ (List.mem_of_getElem? (l := tables_1_1) (i := 39) (by decide +kernel))
theorem tw_5 : Cond.methodLinkNest RX0 15 yX1_init "ClassMill" ∈ lw_tbl := tb_bi 2 _ (List.mem_of_getElem? (l := tables_1_2) (i := 29) (by decide +kernel))
theorem tw_6 : Cond.arrayOver (.array .byte) ∈ lw_tbl := tb_bi 2 _ (List.mem_of_getElem? (l := tables_1_2) (i := 85) (by decide +kernel))
theorem tw_7 : Cond.methodLinkNest RX7 26 yX3_init "ClassMill" ∈ lw_tbl := tb_bi 2 _ (List.mem_of_getElem? (l := tables_1_2) (i := 238) (by decide +kernel))
theorem tw_8 : Cond.arrayOver (.object RX3) ∈ lw_tbl := tb_bi 2 _ (List.mem_of_getElem? (l := tables_1_2) (i := 236) (by decide +kernel))
theorem tw_9 : Cond.methodLinkNest RX11 61 yX3_init "ClassMill" ∈ lw_tbl := tb_bi 3 _ (List.mem_of_getElem? (l := tables_1_3) (i := 96) (by decide +kernel))
theorem tw_10 : Cond.methodLinkNest RX5 45 yX3_init "ClassMill" ∈ lw_tbl := tb_bi 3 _ (List.mem_of_getElem? (l := tables_1_3) (i := 171) (by decide +kernel))
set_option maxRecDepth 100000 in
theorem tb_VS_lw_p0 : ∀ w ∈ VS_lw_p0, w ∈ lw_tbl := fun w h => tb_r _ [(4, 33), (4, 30), (4, 31), (4, 32), (1, 1), (12, 158), (12, 155), (12, 156), (12, 157), (1, 20), (4, 41), (4, 38), (4, 39), (4, 40), (12, 166), (12, 163), (12, 164), (12, 165), (4, 45), (4, 42), (4, 43), (4, 44), (12, 170), (12, 167), (12, 168), (12, 169), (7, 157), (7, 154), (7, 155), (7, 156), (14, 110), (14, 107), (14, 108), (14, 109), (7, 161), (7, 158), (7, 159), (7, 160), (14, 114), (14, 111)] (by decide +kernel) w h
set_option maxRecDepth 100000 in
theorem tb_VS_lw_p1 : ∀ w ∈ VS_lw_p1, w ∈ lw_tbl := fun w h => tb_r _ [(14, 112), (14, 113), (7, 169), (7, 166), (7, 167), (7, 168), (14, 118), (14, 115), (14, 116), (14, 117), (8, 95), (8, 92), (8, 93), (8, 94), (14, 219), (14, 216), (14, 217), (14, 218), (8, 99), (8, 96), (8, 97), (8, 98), (14, 223), (14, 220), (14, 221), (14, 222), (8, 126), (8, 123), (8, 124), (8, 125), (14, 224), (10, 166), (10, 167), (8, 134), (8, 131), (8, 132), (8, 133), (14, 228), (14, 225), (14, 226)] (by decide +kernel) w h
set_option maxRecDepth 100000 in
theorem tb_VS_lw_p2 : ∀ w ∈ VS_lw_p2, w ∈ lw_tbl := fun w h => tb_r _ [(14, 227), (9, 201), (9, 198), (9, 199), (9, 200), (15, 180), (15, 177), (15, 178), (15, 179), (9, 205), (9, 202), (9, 203), (9, 204), (15, 184), (15, 181), (15, 182), (15, 183), (9, 229), (9, 226), (9, 227), (9, 228), (15, 192), (15, 189), (15, 190), (15, 191), (10, 134), (10, 131), (10, 132), (10, 133), (16, 51), (16, 48), (16, 49), (16, 50), (10, 146), (10, 143), (10, 144), (10, 145), (16, 55), (16, 52), (16, 53)] (by decide +kernel) w h
set_option maxRecDepth 100000 in
theorem tb_VS_lw_p3 : ∀ w ∈ VS_lw_p3, w ∈ lw_tbl := fun w h => tb_r _ [(16, 54), (10, 154), (10, 151), (10, 152), (10, 153), (16, 59), (16, 56), (16, 57), (16, 58), (2, 22), (2, 28), (1, 152), (2, 237), (1, 158), (3, 165), (2, 87), (2, 228), (2, 9), (1, 31), (2, 118), (3, 90), (1, 23), (10, 157), (1, 22), (1, 24), (1, 25), (10, 156), (10, 158), (10, 159)] (by decide +kernel) w h
