/-- more is known of the locals -/
def mx_sub (lv lw : mx_L) : Prop := (∀ q ∈ lv, q ∈ lw) ∧ (lw.map (fun q => q.1)).Nodup
theorem mx_nd_at {lw : mx_L} (hn : (lw.map (fun q => q.1)).Nodup) {i : Nat} {v : Value} (h : (i, v) ∈ lw) : mx_at lw i = some v := by
  induction lw with
  | nil => cases h
  | cons q lw ih =>
    have hn2 : q.1 ∉ lw.map (fun q => q.1) ∧ (lw.map (fun q => q.1)).Nodup := List.nodup_cons.mp hn
    rcases List.mem_cons.mp h with e1 | e1
    · subst e1
      simp [mx_at]
    · have hne : ¬ q.1 = i := by
        intro e2
        refine hn2.1 ?_
        rw [e2]
        exact List.mem_map.mpr ⟨(i, v), e1, rfl⟩
      have h3 := ih hn2.2 e1
      unfold mx_at at h3 ⊢
      have e4 : (q.1 == i) = false := by simpa using hne
      rw [List.find?_cons, e4]
      exact h3
theorem mx_sub.at {lv lw : mx_L} (hs : mx_sub lv lw) {i : Nat} {v : Value} (h : mx_at lv i = some v) : mx_at lw i = some v := mx_nd_at hs.2 (hs.1 _ (mx_at_mem h))
theorem mx_sub.set {lv lw : mx_L} (hs : mx_sub lv lw) (i : Nat) (v : Value) : mx_sub (mx_set lv i v) (mx_set lw i v) := by
  refine ⟨fun q hq => ?_, ?_⟩
  · rcases List.mem_cons.mp hq with e1 | e1
    · rw [e1]; exact List.mem_cons_self
    · obtain ⟨h1, h2⟩ := List.mem_filter.mp e1
      exact List.mem_cons_of_mem _ (List.mem_filter.mpr ⟨hs.1 q h1, h2⟩)
  · refine List.nodup_cons.mpr ⟨fun h => ?_, ?_⟩
    · obtain ⟨q, hq, e1⟩ := List.mem_map.mp h
      have h2 := (List.mem_filter.mp hq).2
      rw [e1] at h2
      simp at h2
    · exact List.Nodup.sublist (List.Sublist.map _ List.filter_sublist) hs.2
theorem mx_sub.setL {lv lw : mx_L} (hs : mx_sub lv lw) (i : Nat) (v : Value) : mx_sub (mx_setL lv i v) (mx_setL lw i v) := by
  refine ⟨fun q hq => ?_, ?_⟩
  · rcases List.mem_cons.mp hq with e1 | e1
    · rw [e1]; exact List.mem_cons_self
    · obtain ⟨h1, h2⟩ := List.mem_filter.mp e1
      exact List.mem_cons_of_mem _ (List.mem_filter.mpr ⟨hs.1 q h1, h2⟩)
  · refine List.nodup_cons.mpr ⟨fun h => ?_, ?_⟩
    · obtain ⟨q, hq, e1⟩ := List.mem_map.mp h
      have h2 := (List.mem_filter.mp hq).2
      rw [e1] at h2
      simp at h2
    · exact List.Nodup.sublist (List.Sublist.map _ List.filter_sublist) hs.2
theorem mx_sub_pos {lv lw : mx_L} (ps : List Nat) (h : ps.map (fun i => lw[i]?) = lv.map some) (hn : (lw.map (fun q => q.1)).Nodup) : mx_sub lv lw := by
  refine ⟨fun q hq => ?_, hn⟩
  have h1 : some q ∈ lv.map some := List.mem_map.mpr ⟨q, hq, rfl⟩
  rw [← h] at h1
  obtain ⟨i, -, hi⟩ := List.mem_map.mp h1
  exact List.mem_of_getElem? hi
set_option maxHeartbeats 4000000 in
theorem mx_pure_ext {nL pc len : Nat} {lv lw : mx_L} {st : List Value} {i : Jvm.ClassFile.Instr} {z : Nat × mx_L × List Value} (hs : mx_sub lv lw) (h : mx_pure nL pc lv st i len = some z) : ∃ l2, mx_pure nL pc lw st i len = some (z.1, l2, z.2.2) ∧ mx_sub z.2.1 l2 := by
  unfold mx_pure at h ⊢
  cases i
  case iconst n =>
    dsimp only at h ⊢
    replace h := mx_ifk h; obtain ⟨rfl, h⟩ := h
    rw [if_pos rfl]
    cases h
    exact ⟨lw, rfl, hs⟩
  case bipush n =>
    dsimp only at h ⊢
    replace h := mx_ifk h; obtain ⟨rfl, h⟩ := h
    rw [if_pos rfl]
    cases h
    exact ⟨lw, rfl, hs⟩
  case sipush n =>
    dsimp only at h ⊢
    replace h := mx_ifk h; obtain ⟨rfl, h⟩ := h
    rw [if_pos rfl]
    cases h
    exact ⟨lw, rfl, hs⟩
  case lconst n =>
    dsimp only at h ⊢
    replace h := mx_ifk h; obtain ⟨rfl, h⟩ := h
    rw [if_pos rfl]
    cases h
    exact ⟨lw, rfl, hs⟩
  case aconst_null =>
    dsimp only at h ⊢
    replace h := mx_ifk h; obtain ⟨rfl, h⟩ := h
    rw [if_pos rfl]
    cases h
    exact ⟨lw, rfl, hs⟩
  case iload i =>
    dsimp only at h ⊢
    replace h := mx_ifk h; obtain ⟨rfl, h⟩ := h
    rw [if_pos rfl]
    replace h := mx_gi_el h; obtain ⟨x, hg, h⟩ := h
    rw [hs.at hg]
    cases h
    exact ⟨lw, rfl, hs⟩
  case iload_n i =>
    dsimp only at h ⊢
    replace h := mx_ifk h; obtain ⟨rfl, h⟩ := h
    rw [if_pos rfl]
    replace h := mx_gi_el h; obtain ⟨x, hg, h⟩ := h
    rw [hs.at hg]
    cases h
    exact ⟨lw, rfl, hs⟩
  case lload i =>
    dsimp only at h ⊢
    replace h := mx_ifk h; obtain ⟨rfl, h⟩ := h
    rw [if_pos rfl]
    replace h := mx_gl_el h; obtain ⟨x, hg, h⟩ := h
    rw [hs.at hg]
    cases h
    exact ⟨lw, rfl, hs⟩
  case lload_n i =>
    dsimp only at h ⊢
    replace h := mx_ifk h; obtain ⟨rfl, h⟩ := h
    rw [if_pos rfl]
    replace h := mx_gl_el h; obtain ⟨x, hg, h⟩ := h
    rw [hs.at hg]
    cases h
    exact ⟨lw, rfl, hs⟩
  case aload i =>
    dsimp only at h ⊢
    replace h := mx_ifk h; obtain ⟨rfl, h⟩ := h
    rw [if_pos rfl]
    replace h := mx_gr_el h; obtain ⟨x, hg, h⟩ := h
    rw [hs.at hg]
    cases x <;> (cases h; exact ⟨lw, rfl, hs⟩)
  case aload_n i =>
    dsimp only at h ⊢
    replace h := mx_ifk h; obtain ⟨rfl, h⟩ := h
    rw [if_pos rfl]
    replace h := mx_gr_el h; obtain ⟨x, hg, h⟩ := h
    rw [hs.at hg]
    cases x <;> (cases h; exact ⟨lw, rfl, hs⟩)
  case istore i =>
    dsimp only at h ⊢
    replace h := mx_ifk h; obtain ⟨rfl, h⟩ := h
    rw [if_pos rfl]
    replace h := mx_i1_el h; obtain ⟨x, r, rfl, h⟩ := h
    replace h := mx_ifk h; obtain ⟨hn, h⟩ := h
    cases h
    exact ⟨_, (if_pos hn), hs.set _ _⟩
  case istore_n i =>
    dsimp only at h ⊢
    replace h := mx_ifk h; obtain ⟨rfl, h⟩ := h
    rw [if_pos rfl]
    replace h := mx_i1_el h; obtain ⟨x, r, rfl, h⟩ := h
    replace h := mx_ifk h; obtain ⟨hn, h⟩ := h
    cases h
    exact ⟨_, (if_pos hn), hs.set _ _⟩
  case lstore i =>
    dsimp only at h ⊢
    replace h := mx_ifk h; obtain ⟨rfl, h⟩ := h
    rw [if_pos rfl]
    replace h := mx_l1_el h; obtain ⟨x, r, rfl, h⟩ := h
    replace h := mx_ifk h; obtain ⟨hn, h⟩ := h
    cases h
    exact ⟨_, (if_pos hn), hs.setL _ _⟩
  case lstore_n i =>
    dsimp only at h ⊢
    replace h := mx_ifk h; obtain ⟨rfl, h⟩ := h
    rw [if_pos rfl]
    replace h := mx_l1_el h; obtain ⟨x, r, rfl, h⟩ := h
    replace h := mx_ifk h; obtain ⟨hn, h⟩ := h
    cases h
    exact ⟨_, (if_pos hn), hs.setL _ _⟩
  case astore i =>
    dsimp only at h ⊢
    replace h := mx_ifk h; obtain ⟨rfl, h⟩ := h
    rw [if_pos rfl]
    replace h := mx_r1_el h; obtain ⟨x, r, rfl, h⟩ := h
    replace h := mx_ifk h; obtain ⟨hn, h⟩ := h
    cases x <;> (cases h; exact ⟨_, (if_pos hn), hs.set _ _⟩)
  case astore_n i =>
    dsimp only at h ⊢
    replace h := mx_ifk h; obtain ⟨rfl, h⟩ := h
    rw [if_pos rfl]
    replace h := mx_r1_el h; obtain ⟨x, r, rfl, h⟩ := h
    replace h := mx_ifk h; obtain ⟨hn, h⟩ := h
    cases x <;> (cases h; exact ⟨_, (if_pos hn), hs.set _ _⟩)
  case iinc i n =>
    dsimp only at h ⊢
    replace h := mx_ifk h; obtain ⟨rfl, h⟩ := h
    rw [if_pos rfl]
    replace h := mx_gi_el h; obtain ⟨x, hg, h⟩ := h
    replace h := mx_ifk h; obtain ⟨hn, h⟩ := h
    cases h
    rw [hs.at hg]
    exact ⟨_, (if_pos hn), hs.set _ _⟩
  case iadd =>
    dsimp only at h ⊢
    replace h := mx_ifk h; obtain ⟨rfl, h⟩ := h
    rw [if_pos rfl]
    replace h := mx_i2_el h; obtain ⟨x, y, r, rfl, h⟩ := h
    cases h
    exact ⟨lw, rfl, hs⟩
  case isub =>
    dsimp only at h ⊢
    replace h := mx_ifk h; obtain ⟨rfl, h⟩ := h
    rw [if_pos rfl]
    replace h := mx_i2_el h; obtain ⟨x, y, r, rfl, h⟩ := h
    cases h
    exact ⟨lw, rfl, hs⟩
  case imul =>
    dsimp only at h ⊢
    replace h := mx_ifk h; obtain ⟨rfl, h⟩ := h
    rw [if_pos rfl]
    replace h := mx_i2_el h; obtain ⟨x, y, r, rfl, h⟩ := h
    cases h
    exact ⟨lw, rfl, hs⟩
  case iand =>
    dsimp only at h ⊢
    replace h := mx_ifk h; obtain ⟨rfl, h⟩ := h
    rw [if_pos rfl]
    replace h := mx_i2_el h; obtain ⟨x, y, r, rfl, h⟩ := h
    cases h
    exact ⟨lw, rfl, hs⟩
  case ior =>
    dsimp only at h ⊢
    replace h := mx_ifk h; obtain ⟨rfl, h⟩ := h
    rw [if_pos rfl]
    replace h := mx_i2_el h; obtain ⟨x, y, r, rfl, h⟩ := h
    cases h
    exact ⟨lw, rfl, hs⟩
  case ixor =>
    dsimp only at h ⊢
    replace h := mx_ifk h; obtain ⟨rfl, h⟩ := h
    rw [if_pos rfl]
    replace h := mx_i2_el h; obtain ⟨x, y, r, rfl, h⟩ := h
    cases h
    exact ⟨lw, rfl, hs⟩
  case ishl =>
    dsimp only at h ⊢
    replace h := mx_ifk h; obtain ⟨rfl, h⟩ := h
    rw [if_pos rfl]
    replace h := mx_i2_el h; obtain ⟨x, y, r, rfl, h⟩ := h
    cases h
    exact ⟨lw, rfl, hs⟩
  case ishr =>
    dsimp only at h ⊢
    replace h := mx_ifk h; obtain ⟨rfl, h⟩ := h
    rw [if_pos rfl]
    replace h := mx_i2_el h; obtain ⟨x, y, r, rfl, h⟩ := h
    cases h
    exact ⟨lw, rfl, hs⟩
  case iushr =>
    dsimp only at h ⊢
    replace h := mx_ifk h; obtain ⟨rfl, h⟩ := h
    rw [if_pos rfl]
    replace h := mx_i2_el h; obtain ⟨x, y, r, rfl, h⟩ := h
    cases h
    exact ⟨lw, rfl, hs⟩
  case idiv =>
    dsimp only at h ⊢
    replace h := mx_ifk h; obtain ⟨rfl, h⟩ := h
    rw [if_pos rfl]
    replace h := mx_i2_el h; obtain ⟨x, y, r, rfl, h⟩ := h
    by_cases hy : y = 0
    · rw [if_pos hy] at h; cases h
    · rw [if_neg hy] at h
      cases h
      exact ⟨lw, if_neg hy, hs⟩
  case irem =>
    dsimp only at h ⊢
    replace h := mx_ifk h; obtain ⟨rfl, h⟩ := h
    rw [if_pos rfl]
    replace h := mx_i2_el h; obtain ⟨x, y, r, rfl, h⟩ := h
    by_cases hy : y = 0
    · rw [if_pos hy] at h; cases h
    · rw [if_neg hy] at h
      cases h
      exact ⟨lw, if_neg hy, hs⟩
  case ineg =>
    dsimp only at h ⊢
    replace h := mx_ifk h; obtain ⟨rfl, h⟩ := h
    rw [if_pos rfl]
    replace h := mx_i1_el h; obtain ⟨x, r, rfl, h⟩ := h
    cases h
    exact ⟨lw, rfl, hs⟩
  case ladd =>
    dsimp only at h ⊢
    replace h := mx_ifk h; obtain ⟨rfl, h⟩ := h
    rw [if_pos rfl]
    replace h := mx_l2_el h; obtain ⟨x, y, r, rfl, h⟩ := h
    cases h
    exact ⟨lw, rfl, hs⟩
  case lsub =>
    dsimp only at h ⊢
    replace h := mx_ifk h; obtain ⟨rfl, h⟩ := h
    rw [if_pos rfl]
    replace h := mx_l2_el h; obtain ⟨x, y, r, rfl, h⟩ := h
    cases h
    exact ⟨lw, rfl, hs⟩
  case lmul =>
    dsimp only at h ⊢
    replace h := mx_ifk h; obtain ⟨rfl, h⟩ := h
    rw [if_pos rfl]
    replace h := mx_l2_el h; obtain ⟨x, y, r, rfl, h⟩ := h
    cases h
    exact ⟨lw, rfl, hs⟩
  case lcmp =>
    dsimp only at h ⊢
    replace h := mx_ifk h; obtain ⟨rfl, h⟩ := h
    rw [if_pos rfl]
    replace h := mx_l2_el h; obtain ⟨x, y, r, rfl, h⟩ := h
    cases h
    exact ⟨lw, rfl, hs⟩
  case i2b =>
    dsimp only at h ⊢
    replace h := mx_ifk h; obtain ⟨rfl, h⟩ := h
    rw [if_pos rfl]
    replace h := mx_i1_el h; obtain ⟨x, r, rfl, h⟩ := h
    cases h
    exact ⟨lw, rfl, hs⟩
  case i2s =>
    dsimp only at h ⊢
    replace h := mx_ifk h; obtain ⟨rfl, h⟩ := h
    rw [if_pos rfl]
    replace h := mx_i1_el h; obtain ⟨x, r, rfl, h⟩ := h
    cases h
    exact ⟨lw, rfl, hs⟩
  case i2c =>
    dsimp only at h ⊢
    replace h := mx_ifk h; obtain ⟨rfl, h⟩ := h
    rw [if_pos rfl]
    replace h := mx_i1_el h; obtain ⟨x, r, rfl, h⟩ := h
    cases h
    exact ⟨lw, rfl, hs⟩
  case i2l =>
    dsimp only at h ⊢
    replace h := mx_ifk h; obtain ⟨rfl, h⟩ := h
    rw [if_pos rfl]
    replace h := mx_i1_el h; obtain ⟨x, r, rfl, h⟩ := h
    cases h
    exact ⟨lw, rfl, hs⟩
  case l2i =>
    dsimp only at h ⊢
    replace h := mx_ifk h; obtain ⟨rfl, h⟩ := h
    rw [if_pos rfl]
    replace h := mx_l1_el h; obtain ⟨x, r, rfl, h⟩ := h
    cases h
    exact ⟨lw, rfl, hs⟩
  case dup =>
    dsimp only at h ⊢
    replace h := mx_ifk h; obtain ⟨rfl, h⟩ := h
    rw [if_pos rfl]
    replace h := mx_v1_el h; obtain ⟨v, r, rfl, hc, h⟩ := h
    cases h
    refine ⟨lw, ?_, hs⟩
    show (if _ then _ else none) = _
    rw [if_pos hc]
  case pop =>
    dsimp only at h ⊢
    replace h := mx_ifk h; obtain ⟨rfl, h⟩ := h
    rw [if_pos rfl]
    replace h := mx_v1_el h; obtain ⟨v, r, rfl, hc, h⟩ := h
    cases h
    refine ⟨lw, ?_, hs⟩
    show (if _ then _ else none) = _
    rw [if_pos hc]
  case dup_x1 =>
    dsimp only at h ⊢
    replace h := mx_ifk h; obtain ⟨rfl, h⟩ := h
    rw [if_pos rfl]
    replace h := mx_v1_el h; obtain ⟨v, r, rfl, hc, h⟩ := h
    replace h := mx_v1_el h; obtain ⟨w, r2, rfl, hc2, h⟩ := h
    cases h
    refine ⟨lw, ?_, hs⟩
    show (if _ then (if _ then _ else none) else none) = _
    rw [if_pos hc, if_pos hc2]
  case dup2 =>
    dsimp only at h ⊢
    replace h := mx_ifk h; obtain ⟨rfl, h⟩ := h
    rw [if_pos rfl]
    replace h := mx_v1_el h; obtain ⟨v, r, rfl, hc, h⟩ := h
    replace h := mx_v1_el h; obtain ⟨w, r2, rfl, hc2, h⟩ := h
    cases h
    refine ⟨lw, ?_, hs⟩
    show (if _ then (if _ then _ else none) else none) = _
    rw [if_pos hc, if_pos hc2]
  case goto off =>
    dsimp only at h ⊢
    replace h := mx_ifk h; obtain ⟨rfl, h⟩ := h
    rw [if_pos rfl]
    cases ht : mx_tg pc off with
    | none => rw [ht] at h; cases h
    | some tgt =>
      rw [ht] at h
      cases h
      exact ⟨lw, rfl, hs⟩
  case ifCond cd off =>
    dsimp only at h ⊢
    replace h := mx_ifk h; obtain ⟨rfl, h⟩ := h
    rw [if_pos rfl]
    replace h := mx_i1_el h; obtain ⟨x, r, rfl, h⟩ := h
    cases ht : mx_tg pc off with
    | none => rw [ht] at h; cases h
    | some tgt =>
      rw [ht] at h
      cases hc : mx_cnd cd x 0
      · refine ⟨lw, ?_, ?_⟩
        · show (match mx_cnd cd x 0 with | true => some (tgt, lw, r) | false => some (pc + 3, lw, r)) = _
          have h : (match mx_cnd cd x 0 with | true => some (tgt, lv, r) | false => some (pc + 3, lv, r)) = some z := h
          rw [hc] at h ⊢
          cases h
          rfl
        · have h : (match mx_cnd cd x 0 with | true => some (tgt, lv, r) | false => some (pc + 3, lv, r)) = some z := h
          rw [hc] at h
          cases h
          exact hs
      · refine ⟨lw, ?_, ?_⟩
        · show (match mx_cnd cd x 0 with | true => some (tgt, lw, r) | false => some (pc + 3, lw, r)) = _
          have h : (match mx_cnd cd x 0 with | true => some (tgt, lv, r) | false => some (pc + 3, lv, r)) = some z := h
          rw [hc] at h ⊢
          cases h
          rfl
        · have h : (match mx_cnd cd x 0 with | true => some (tgt, lv, r) | false => some (pc + 3, lv, r)) = some z := h
          rw [hc] at h
          cases h
          exact hs
  case if_icmp cd off =>
    dsimp only at h ⊢
    replace h := mx_ifk h; obtain ⟨rfl, h⟩ := h
    rw [if_pos rfl]
    replace h := mx_i2_el h; obtain ⟨x, y, r, rfl, h⟩ := h
    cases ht : mx_tg pc off with
    | none => rw [ht] at h; cases h
    | some tgt =>
      rw [ht] at h
      cases hc : mx_cnd cd x y
      · refine ⟨lw, ?_, ?_⟩
        · show (match mx_cnd cd x y with | true => some (tgt, lw, r) | false => some (pc + 3, lw, r)) = _
          have h : (match mx_cnd cd x y with | true => some (tgt, lv, r) | false => some (pc + 3, lv, r)) = some z := h
          rw [hc] at h ⊢
          cases h
          rfl
        · have h : (match mx_cnd cd x y with | true => some (tgt, lv, r) | false => some (pc + 3, lv, r)) = some z := h
          rw [hc] at h
          cases h
          exact hs
      · refine ⟨lw, ?_, ?_⟩
        · show (match mx_cnd cd x y with | true => some (tgt, lw, r) | false => some (pc + 3, lw, r)) = _
          have h : (match mx_cnd cd x y with | true => some (tgt, lv, r) | false => some (pc + 3, lv, r)) = some z := h
          rw [hc] at h ⊢
          cases h
          rfl
        · have h : (match mx_cnd cd x y with | true => some (tgt, lv, r) | false => some (pc + 3, lv, r)) = some z := h
          rw [hc] at h
          cases h
          exact hs
  case ifnull off =>
    dsimp only at h ⊢
    replace h := mx_ifk h; obtain ⟨rfl, h⟩ := h
    rw [if_pos rfl]
    replace h := mx_r1_el h; obtain ⟨x, r, rfl, h⟩ := h
    cases ht : mx_tg pc off with
    | none => rw [ht] at h; cases h
    | some tgt =>
      rw [ht] at h
      cases x <;> (cases h; exact ⟨lw, rfl, hs⟩)
  case ifnonnull off =>
    dsimp only at h ⊢
    replace h := mx_ifk h; obtain ⟨rfl, h⟩ := h
    rw [if_pos rfl]
    replace h := mx_r1_el h; obtain ⟨x, r, rfl, h⟩ := h
    cases ht : mx_tg pc off with
    | none => rw [ht] at h; cases h
    | some tgt =>
      rw [ht] at h
      cases x <;> (cases h; exact ⟨lw, rfl, hs⟩)
  case lookupswitch dflt ps =>
    dsimp only at h ⊢
    replace h := mx_i1_el h; obtain ⟨x, r, rfl, h⟩ := h
    replace h := mx_ifk h; obtain ⟨hp, h⟩ := h
    cases ht : mx_tg pc (Op.lookupswitch.offset ps.toList dflt x.toInt) with
    | none => rw [ht] at h; cases h
    | some tgt =>
      rw [ht] at h
      cases h
      refine ⟨lw, ?_, hs⟩
      show (if _ then _ else none) = _
      rw [if_pos hp, ht]
      rfl
  case tableswitch dflt lo hi offs =>
    dsimp only at h ⊢
    replace h := mx_i1_el h; obtain ⟨x, r, rfl, h⟩ := h
    by_cases hc : x.toInt < lo ∨ hi < x.toInt
    · rw [if_pos hc] at h
      cases ht : mx_tg pc dflt with
      | none => rw [ht] at h; cases h
      | some tgt =>
        rw [ht] at h
        cases h
        refine ⟨lw, ?_, hs⟩
        show (if _ then _ else _) = _
        rw [if_pos hc]
        rfl
    · rw [if_neg hc] at h
      cases ho : offs[(x.toInt - lo).toNat]? with
      | none => rw [ho] at h; cases h
      | some off =>
        rw [ho] at h
        dsimp only at h
        cases ht : mx_tg pc off with
        | none => rw [ht] at h; cases h
        | some tgt =>
          rw [ht] at h
          cases h
          refine ⟨lw, ?_, hs⟩
          show (if _ then _ else _) = _
          rw [if_neg hc, ho]
          dsimp only
          rw [ht]
          rfl
  all_goals (dsimp only at h; cases h)
set_option maxHeartbeats 4000000 in
/-- an instruction that touches no cell does nothing else -/
theorem mx_pure_only {G : mx_G} {cn : Nat → Option String} {y : MethodName} {ret : Option FieldType} {F L nL pc len : Nat} {lv lw : mx_L} {st : List Value} {h : mx_H} {i : Jvm.ClassFile.Instr} (h1 : mx_pure nL pc lv st i len = none) : mx_pure nL pc lw st i len = none ∨ (mx_heap G cn y st h i len = none ∧ mx_ret ret st i len = none ∧ mx_odd G F L y st h i len = none ∧ mx_str G F L y st i len = none ∧ mx_new G cn F L y st h i len = none ∧ mx_call G y st i len = none) := by
  cases i
  all_goals first | exact Or.inl rfl | exact Or.inr ⟨rfl, rfl, rfl, rfl, rfl, rfl⟩
/-- a run goes on alike where more is known of the locals -/
theorem mx_go_ext (G : mx_G) (cn : Nat → Option String) : ∀ (n F L mu pc : Nat) (lv lw : mx_L) (st : List Value) (h : mx_H) (c s : Nat) (r : Option Value × mx_H × Nat × Nat), mx_sub lv lw → mx_go G cn n F L mu pc lv st h c s = some r → mx_go G cn n F L mu pc lw st h c s = some r := by
  intro n
  induction n with
  | zero => intro F L mu pc lv lw st h c s r hs hh; cases hh
  | succ n ih =>
    intro F L mu pc lv lw st h c s r hs hh
    unfold mx_go at hh ⊢
    obtain ⟨q, hq, hh⟩ := mx_sv_el hh
    rw [hq, mx_sv_some]
    obtain ⟨i, len, hd, hh⟩ := mx_dc_el hh
    rw [mx_dc_ok hd]
    try dsimp only at hh ⊢
    cases hp1 : mx_pure q.2.2.1 pc lv st i len with
    | some z =>
      rw [hp1] at hh
      obtain ⟨l2, e1, e2⟩ := mx_pure_ext hs hp1
      rw [e1]
      exact ih _ _ _ _ _ _ _ _ _ _ _ e2 hh
    | none =>
      rw [hp1] at hh
      try dsimp only at hh ⊢
      rcases mx_pure_only (G := G) (cn := cn) (y := q.1) (ret := q.2.2.2) (F := F) (L := L) (lw := lw) (h := h) hp1 with e1 | ⟨e1, e2, e3, e4, e5, e6⟩
      · rw [e1]
        dsimp only
        cases hp2 : mx_heap G cn q.1 st h i len with
        | some z => rw [hp2] at hh; exact ih _ _ _ _ _ _ _ _ _ _ _ hs hh
        | none =>
          rw [hp2] at hh
          try dsimp only at hh ⊢
          cases hp3 : mx_ret q.2.2.2 st i len with
          | some z => rw [hp3] at hh; exact hh
          | none =>
            rw [hp3] at hh
            try dsimp only at hh ⊢
            cases hp4 : mx_odd G F L q.1 st h i len with
            | some z => rw [hp4] at hh; exact ih _ _ _ _ _ _ _ _ _ _ _ hs hh
            | none =>
              rw [hp4] at hh
              try dsimp only at hh ⊢
              cases hp5 : mx_str G F L q.1 st i len with
              | some z => rw [hp5] at hh; exact ih _ _ _ _ _ _ _ _ _ _ _ hs hh
              | none =>
                rw [hp5] at hh
                try dsimp only at hh ⊢
                cases hp6 : mx_new G cn F L q.1 st h i len with
                | some z =>
                  rw [hp6] at hh
                  try dsimp only at hh ⊢
                  obtain ⟨g1, hh⟩ := mx_ifk hh
                  rw [if_pos g1]
                  exact ih _ _ _ _ _ _ _ _ _ _ _ hs hh
                | none =>
                  rw [hp6] at hh
                  try dsimp only at hh ⊢
                  obtain ⟨z, hz, hh⟩ := mx_sv_el hh
                  rw [hz, mx_sv_some]
                  obtain ⟨w, hw, hh⟩ := mx_sv_el hh
                  rw [hw, mx_sv_some]
                  try dsimp only at hh ⊢
                  obtain ⟨g1, hh⟩ := mx_ifk hh
                  rw [if_pos g1]
                  have hh : mx_sv (mx_go G cn n (F - 1) (L - (19 + w.2.2.1)) z.2.1 0 (lv_args 0 z.2.2.1) [] h 0 0) (fun u => mx_go G cn n F L mu (pc + 3) lv (u.1.toList ++ z.2.2.2) u.2.1 (c + u.2.2.1) (s + u.2.2.2)) = some r := hh
                  obtain ⟨u, hu, hh⟩ := mx_sv_el hh
                  rw [hu, mx_sv_some]
                  exact ih _ _ _ _ _ _ _ _ _ _ _ hs hh
      · rw [e1, e2, e3, e4, e5, e6] at hh
        cases hh
theorem mx_S.ext {X : Nat × (Nat → Int32)} {F L mu pc : Nat} (lv : mx_L) {lw : mx_L} {st : List Value} {h : mx_H} {c s : Nat} {r : Option Value × mx_H × Nat × Nat} (hs : mx_sub lv lw) (k : mx_S X F L mu pc lv st h c s r) : mx_S X F L mu pc lw st h c s r := by
  obtain ⟨n, hn⟩ := k
  exact ⟨n, mx_go_ext _ _ _ _ _ _ _ _ _ _ _ _ _ _ hs hn⟩
