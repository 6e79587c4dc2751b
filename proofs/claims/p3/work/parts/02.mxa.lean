/-- The little machine. A cell is an array (type, contents) or an object (number of its class, fields); a reference is a place in the list of cells (from a thousand million on: a text of the program). -/
abbrev mx_E : Type := (FieldType × vp_A) ⊕ (Nat × List Value)
abbrev mx_H : Type := List mx_E
abbrev mx_L : Type := List (Nat × Value)
/-- a value as the machine has it: places become addresses -/
def mx_tr (rh : Nat → Nat) (v : Value) : Value := match v with
  | .ref i => .ref (rh i)
  | .int x => .int x
  | .long x => .long x
  | .float x => .float x
  | .double x => .double x
  | .null => .null
  | .retAddr x => .retAddr x
theorem mx_tr_cat (rh : Nat → Nat) (v : Value) : (mx_tr rh v).category = v.category := by cases v <;> rfl
abbrev mx_trS (rh : Nat → Nat) (st : List Value) : List Value := st.map (mx_tr rh)
def mx_trL (rh : Nat → Nat) (lv : mx_L) : mx_L := lv.map (fun q => (q.1, mx_tr rh q.2))
def mx_set (lv : mx_L) (i : Nat) (v : Value) : mx_L := (i, v) :: lv.filter (fun q => !(q.1 == i) && !(q.1 + 1 == i && q.2.category == 2))
def mx_setL (lv : mx_L) (i : Nat) (v : Value) : mx_L := (i, v) :: lv.filter (fun q => !(q.1 == i) && (!(q.1 == i + 1) && !(q.1 + 1 == i && q.2.category == 2)))
theorem mx_set_tr (rh : Nat → Nat) (lv : mx_L) (i : Nat) (v : Value) : (i, mx_tr rh v) :: (mx_trL rh lv).filter (fun q => !(q.1 == i) && !(q.1 + 1 == i && q.2.category == 2)) = mx_trL rh (mx_set lv i v) := by
  simp only [mx_trL, mx_set, List.filter_map, List.map_cons, Function.comp_def, mx_tr_cat]
theorem mx_setL_tr (rh : Nat → Nat) (lv : mx_L) (i : Nat) (v : Value) : (i, mx_tr rh v) :: (mx_trL rh lv).filter (fun q => !(q.1 == i) && (!(q.1 == i + 1) && !(q.1 + 1 == i && q.2.category == 2))) = mx_trL rh (mx_setL lv i v) := by
  simp only [mx_trL, mx_setL, List.filter_map, List.map_cons, Function.comp_def, mx_tr_cat]
def mx_at (lv : mx_L) (i : Nat) : Option Value := match lv.find? (fun q => q.1 == i) with
  | some q => some q.2
  | none => none
theorem mx_at_mem {lv : mx_L} {i : Nat} {v : Value} (h : mx_at lv i = some v) : (i, v) ∈ lv := by
  unfold mx_at at h
  cases hf : lv.find? (fun q => q.1 == i) with
  | none => rw [hf] at h; cases h
  | some q =>
    rw [hf] at h
    cases h
    have h1 := List.find?_some hf
    have h2 := List.mem_of_find?_eq_some hf
    have h3 : q.1 = i := by simpa using h1
    rw [← h3]
    exact h2
theorem mx_at_has {ls : Array Slot} {nL : Nat} {rh : Nat → Nat} {lv : mx_L} {i : Nat} {v : Value} (hl : lv_has ls nL (mx_trL rh lv)) (h : mx_at lv i = some v) : ls[i]? = some (.val (mx_tr rh v)) :=
  hl.2.2 (i, mx_tr rh v) (List.mem_map.mpr ⟨(i, v), mx_at_mem h, rfl⟩)
/-- no reference hangs -/
def mx_okV (n : Nat) (v : Value) : Prop := match v with
  | .ref i => i < n ∨ 1000000000 ≤ i
  | _ => True
def mx_okS (n : Nat) (st : List Value) : Prop := ∀ v ∈ st, mx_okV n v
def mx_okL (n : Nat) (lv : mx_L) : Prop := ∀ q ∈ lv, mx_okV n q.2
theorem mx_okS.t {n : Nat} {v : Value} {st : List Value} (h : mx_okS n (v :: st)) : mx_okS n st := fun w hw => h w (List.mem_cons_of_mem _ hw)
theorem mx_okS.hd {n : Nat} {v : Value} {st : List Value} (h : mx_okS n (v :: st)) : mx_okV n v := h v List.mem_cons_self
theorem mx_okS.c {n : Nat} {v : Value} {st : List Value} (h : mx_okS n st) (hv : mx_okV n v) : mx_okS n (v :: st) := fun w hw => by
  rcases List.mem_cons.mp hw with e1 | e1
  · rw [e1]; exact hv
  · exact h w e1
theorem mx_okS.i {n : Nat} {x : Int32} {st : List Value} (h : mx_okS n st) : mx_okS n (.int x :: st) := h.c trivial
theorem mx_okS.l {n : Nat} {x : Int64} {st : List Value} (h : mx_okS n st) : mx_okS n (.long x :: st) := h.c trivial
theorem mx_okS.z {n : Nat} {st : List Value} (h : mx_okS n st) : mx_okS n (.null :: st) := h.c trivial
theorem mx_okL.get {n i : Nat} {lv : mx_L} {v : Value} (h : mx_okL n lv) (hv : mx_at lv i = some v) : mx_okV n v := h _ (mx_at_mem hv)
theorem mx_okL.set {n i : Nat} {lv : mx_L} {v : Value} (h : mx_okL n lv) (hv : mx_okV n v) : mx_okL n (mx_set lv i v) := fun q hq => by
  rcases List.mem_cons.mp hq with e1 | e1
  · rw [e1]; exact hv
  · exact h q (List.mem_filter.mp e1).1
theorem mx_okL.setL {n i : Nat} {lv : mx_L} {v : Value} (h : mx_okL n lv) (hv : mx_okV n v) : mx_okL n (mx_setL lv i v) := fun q hq => by
  rcases List.mem_cons.mp hq with e1 | e1
  · rw [e1]; exact hv
  · exact h q (List.mem_filter.mp e1).1
/-- where a jump goes -/
def mx_tg (pc : Nat) (off : Int) : Option Nat := if 0 ≤ (pc : Int) + off then some ((pc : Int) + off).toNat else none
theorem mx_tg_ok {pc tgt : Nat} {off : Int} (h : mx_tg pc off = some tgt) : (pc : Int) + off = (tgt : Int) := by
  unfold mx_tg at h
  split at h
  · cases h; omega
  · cases h
/-- pieces of an instruction's meaning, and what it says that they give something -/
theorem mx_ifk {α : Type} {b : Prop} {d : Decidable b} {x : Option α} {y : α} (h : (@ite _ b d x none) = some y) : b ∧ x = some y := by
  cases d with
  | isTrue hb => exact ⟨hb, h⟩
  | isFalse hb => cases h
def mx_i2 {α : Type} (st : List Value) (F : Int32 → Int32 → List Value → Option α) : Option α := match st with
  | .int y :: .int x :: r => F x y r
  | _ => none
def mx_i1 {α : Type} (st : List Value) (F : Int32 → List Value → Option α) : Option α := match st with
  | .int x :: r => F x r
  | _ => none
def mx_l2 {α : Type} (st : List Value) (F : Int64 → Int64 → List Value → Option α) : Option α := match st with
  | .long y :: .long x :: r => F x y r
  | _ => none
def mx_l1 {α : Type} (st : List Value) (F : Int64 → List Value → Option α) : Option α := match st with
  | .long x :: r => F x r
  | _ => none
def mx_r1 {α : Type} (st : List Value) (F : Option Nat → List Value → Option α) : Option α := match st with
  | .ref x :: r => F (some x) r
  | .null :: r => F none r
  | _ => none
def mx_v1 {α : Type} (st : List Value) (F : Value → List Value → Option α) : Option α := match st with
  | v :: r => if v.category = 1 then F v r else none
  | _ => none
def mx_gi {α : Type} (v : Option Value) (F : Int32 → Option α) : Option α := match v with
  | some (.int x) => F x
  | _ => none
def mx_gl {α : Type} (v : Option Value) (F : Int64 → Option α) : Option α := match v with
  | some (.long x) => F x
  | _ => none
def mx_gr {α : Type} (v : Option Value) (F : Option Nat → Option α) : Option α := match v with
  | some (.ref x) => F (some x)
  | some .null => F none
  | _ => none
theorem mx_i2_el {α : Type} {st : List Value} {F : Int32 → Int32 → List Value → Option α} {z : α} (h : mx_i2 st F = some z) : ∃ x y r, st = .int y :: .int x :: r ∧ F x y r = some z := by
  unfold mx_i2 at h
  split at h
  · exact ⟨_, _, _, rfl, h⟩
  · cases h
theorem mx_i1_el {α : Type} {st : List Value} {F : Int32 → List Value → Option α} {z : α} (h : mx_i1 st F = some z) : ∃ x r, st = .int x :: r ∧ F x r = some z := by
  unfold mx_i1 at h
  split at h
  · exact ⟨_, _, rfl, h⟩
  · cases h
theorem mx_l2_el {α : Type} {st : List Value} {F : Int64 → Int64 → List Value → Option α} {z : α} (h : mx_l2 st F = some z) : ∃ x y r, st = .long y :: .long x :: r ∧ F x y r = some z := by
  unfold mx_l2 at h
  split at h
  · exact ⟨_, _, _, rfl, h⟩
  · cases h
theorem mx_l1_el {α : Type} {st : List Value} {F : Int64 → List Value → Option α} {z : α} (h : mx_l1 st F = some z) : ∃ x r, st = .long x :: r ∧ F x r = some z := by
  unfold mx_l1 at h
  split at h
  · exact ⟨_, _, rfl, h⟩
  · cases h
theorem mx_r1_el {α : Type} {st : List Value} {F : Option Nat → List Value → Option α} {z : α} (h : mx_r1 st F = some z) : ∃ x r, st = va_rf x :: r ∧ F x r = some z := by
  unfold mx_r1 at h
  split at h
  · exact ⟨some _, _, rfl, h⟩
  · exact ⟨none, _, rfl, h⟩
  · cases h
theorem mx_v1_el {α : Type} {st : List Value} {F : Value → List Value → Option α} {z : α} (h : mx_v1 st F = some z) : ∃ v r, st = v :: r ∧ v.category = 1 ∧ F v r = some z := by
  unfold mx_v1 at h
  split at h
  · obtain ⟨h1, h2⟩ := mx_ifk h
    exact ⟨_, _, rfl, h1, h2⟩
  · cases h
theorem mx_gi_el {α : Type} {v : Option Value} {F : Int32 → Option α} {z : α} (h : mx_gi v F = some z) : ∃ x, v = some (.int x) ∧ F x = some z := by
  unfold mx_gi at h
  split at h
  · exact ⟨_, rfl, h⟩
  · cases h
theorem mx_gl_el {α : Type} {v : Option Value} {F : Int64 → Option α} {z : α} (h : mx_gl v F = some z) : ∃ x, v = some (.long x) ∧ F x = some z := by
  unfold mx_gl at h
  split at h
  · exact ⟨_, rfl, h⟩
  · cases h
theorem mx_gr_el {α : Type} {v : Option Value} {F : Option Nat → Option α} {z : α} (h : mx_gr v F = some z) : ∃ x, v = some (va_rf x) ∧ F x = some z := by
  unfold mx_gr at h
  split at h
  · exact ⟨some _, rfl, h⟩
  · exact ⟨none, rfl, h⟩
  · cases h
theorem mx_tgk {α : Type} {pc : Nat} {off : Int} {F : Nat → Option α} {z : α} (h : (mx_tg pc off).bind F = some z) : ∃ tgt : Nat, (pc : Int) + off = (tgt : Int) ∧ F tgt = some z := by
  cases ht : mx_tg pc off with
  | none => rw [ht] at h; cases h
  | some tgt => rw [ht] at h; exact ⟨tgt, mx_tg_ok ht, h⟩
def mx_cnd (cd : Jvm.ClassFile.Cond) (x y : Int32) : Bool := match cd with
  | .eq => decide (x = y)
  | .ne => !decide (x = y)
  | .lt => decide (x < y)
  | .ge => decide (y ≤ x)
  | .gt => decide (y < x)
  | .le => decide (x ≤ y)
/-- an instruction that touches no cell: the next place, locals, stack -/
def mx_pure (nL pc : Nat) (lv : mx_L) (st : List Value) (i : Jvm.ClassFile.Instr) (len : Nat) : Option (Nat × mx_L × List Value) := match i with
  | .iconst n => if len = 1 then some (pc + 1, lv, .int (Int32.ofInt n) :: st) else none
  | .bipush n => if len = 2 then some (pc + 2, lv, .int ((Int8.ofInt n).toInt32) :: st) else none
  | .sipush n => if len = 3 then some (pc + 3, lv, .int ((Int16.ofInt n).toInt32) :: st) else none
  | .lconst n => if len = 1 then some (pc + 1, lv, .long (Int64.ofNat n.val) :: st) else none
  | .aconst_null => if len = 1 then some (pc + 1, lv, .null :: st) else none
  | .iload i => if len = 2 then mx_gi (mx_at lv i) fun x => some (pc + 2, lv, .int x :: st) else none
  | .iload_n i => if len = 1 then mx_gi (mx_at lv i.val) fun x => some (pc + 1, lv, .int x :: st) else none
  | .lload i => if len = 2 then mx_gl (mx_at lv i) fun x => some (pc + 2, lv, .long x :: st) else none
  | .lload_n i => if len = 1 then mx_gl (mx_at lv i.val) fun x => some (pc + 1, lv, .long x :: st) else none
  | .aload i => if len = 2 then mx_gr (mx_at lv i) fun x => some (pc + 2, lv, va_rf x :: st) else none
  | .aload_n i => if len = 1 then mx_gr (mx_at lv i.val) fun x => some (pc + 1, lv, va_rf x :: st) else none
  | .istore i => if len = 2 then mx_i1 st fun x r => if i < nL then some (pc + 2, mx_set lv i (.int x), r) else none else none
  | .istore_n i => if len = 1 then mx_i1 st fun x r => if i.val < nL then some (pc + 1, mx_set lv i.val (.int x), r) else none else none
  | .lstore i => if len = 2 then mx_l1 st fun x r => if i + 1 < nL then some (pc + 2, mx_setL lv i (.long x), r) else none else none
  | .lstore_n i => if len = 1 then mx_l1 st fun x r => if i.val + 1 < nL then some (pc + 1, mx_setL lv i.val (.long x), r) else none else none
  | .astore i => if len = 2 then mx_r1 st fun x r => if i < nL then some (pc + 2, mx_set lv i (va_rf x), r) else none else none
  | .astore_n i => if len = 1 then mx_r1 st fun x r => if i.val < nL then some (pc + 1, mx_set lv i.val (va_rf x), r) else none else none
  | .iinc i n => if len = 3 then mx_gi (mx_at lv i) fun x => if i < nL then some (pc + 3, mx_set lv i (.int (x + Int32.ofInt n)), st) else none else none
  | .iadd => if len = 1 then mx_i2 st fun x y r => some (pc + 1, lv, .int (x + y) :: r) else none
  | .isub => if len = 1 then mx_i2 st fun x y r => some (pc + 1, lv, .int (x - y) :: r) else none
  | .imul => if len = 1 then mx_i2 st fun x y r => some (pc + 1, lv, .int (x * y) :: r) else none
  | .iand => if len = 1 then mx_i2 st fun x y r => some (pc + 1, lv, .int (x &&& y) :: r) else none
  | .ior => if len = 1 then mx_i2 st fun x y r => some (pc + 1, lv, .int (x ||| y) :: r) else none
  | .ixor => if len = 1 then mx_i2 st fun x y r => some (pc + 1, lv, .int (x ^^^ y) :: r) else none
  | .ishl => if len = 1 then mx_i2 st fun x y r => some (pc + 1, lv, .int (x <<< (y &&& 31)) :: r) else none
  | .ishr => if len = 1 then mx_i2 st fun x y r => some (pc + 1, lv, .int (x >>> (y &&& 31)) :: r) else none
  | .iushr => if len = 1 then mx_i2 st fun x y r => some (pc + 1, lv, .int ((x.toUInt32 >>> (y.toUInt32 &&& Int32.toUInt32 31)).toInt32) :: r) else none
  | .idiv => if len = 1 then mx_i2 st fun x y r => if y = 0 then none else some (pc + 1, lv, .int (x / y) :: r) else none
  | .irem => if len = 1 then mx_i2 st fun x y r => if y = 0 then none else some (pc + 1, lv, .int (x - x / y * y) :: r) else none
  | .ineg => if len = 1 then mx_i1 st fun x r => some (pc + 1, lv, .int (-x) :: r) else none
  | .ladd => if len = 1 then mx_l2 st fun x y r => some (pc + 1, lv, .long (x + y) :: r) else none
  | .lsub => if len = 1 then mx_l2 st fun x y r => some (pc + 1, lv, .long (x - y) :: r) else none
  | .lmul => if len = 1 then mx_l2 st fun x y r => some (pc + 1, lv, .long (x * y) :: r) else none
  | .lcmp => if len = 1 then mx_l2 st fun x y r => some (pc + 1, lv, .int (if y < x then 1 else if x = y then 0 else -1) :: r) else none
  | .i2b => if len = 1 then mx_i1 st fun x r => some (pc + 1, lv, .int (x.toInt8.toInt32) :: r) else none
  | .i2s => if len = 1 then mx_i1 st fun x r => some (pc + 1, lv, .int (x.toInt16.toInt32) :: r) else none
  | .i2c => if len = 1 then mx_i1 st fun x r => some (pc + 1, lv, .int ((x.toUInt32 % 65536).toInt32) :: r) else none
  | .i2l => if len = 1 then mx_i1 st fun x r => some (pc + 1, lv, .long x.toInt64 :: r) else none
  | .l2i => if len = 1 then mx_l1 st fun x r => some (pc + 1, lv, .int x.toInt32 :: r) else none
  | .dup => if len = 1 then mx_v1 st fun v r => some (pc + 1, lv, v :: v :: r) else none
  | .pop => if len = 1 then mx_v1 st fun v r => some (pc + 1, lv, r) else none
  | .dup_x1 => if len = 1 then mx_v1 st fun v r => mx_v1 r fun w r2 => some (pc + 1, lv, v :: w :: v :: r2) else none
  | .dup2 => if len = 1 then mx_v1 st fun v r => mx_v1 r fun w r2 => some (pc + 1, lv, v :: w :: v :: w :: r2) else none
  | .goto off => if len = 3 then (mx_tg pc off).bind fun tgt => some (tgt, lv, st) else none
  | .ifCond cd off => if len = 3 then mx_i1 st fun x r => (mx_tg pc off).bind fun tgt => match mx_cnd cd x 0 with | true => some (tgt, lv, r) | false => some (pc + 3, lv, r) else none
  | .if_icmp cd off => if len = 3 then mx_i2 st fun x y r => (mx_tg pc off).bind fun tgt => match mx_cnd cd x y with | true => some (tgt, lv, r) | false => some (pc + 3, lv, r) else none
  | .ifnull off => if len = 3 then mx_r1 st fun x r => (mx_tg pc off).bind fun tgt => match x with | none => some (tgt, lv, r) | some _ => some (pc + 3, lv, r) else none
  | .ifnonnull off => if len = 3 then mx_r1 st fun x r => (mx_tg pc off).bind fun tgt => match x with | none => some (pc + 3, lv, r) | some _ => some (tgt, lv, r) else none
  | .lookupswitch dflt ps => mx_i1 st fun x r => if (ps.toList.zip (ps.toList.drop 1)).all (fun (a, next) => a.1 < next.1) = true then (mx_tg pc (Op.lookupswitch.offset ps.toList dflt x.toInt)).bind fun tgt => some (tgt, lv, r) else none
  | .tableswitch dflt lo hi offs => mx_i1 st fun x r => if x.toInt < lo ∨ hi < x.toInt then (mx_tg pc dflt).bind fun tgt => some (tgt, lv, r) else match offs[(x.toInt - lo).toNat]? with | some off => (mx_tg pc off).bind fun tgt => some (tgt, lv, r) | none => none
  | _ => none
section MXP
variable {p : Program} {l : Launch} {e : Env} {R : Room} {s : State} {m : MethodId} {args : Array Value} {below : List Frame} {meth : Method} {c : Code} {H : Heap} {locs : List Loc} {cells slots : Nat} {Q : State → Prop}
set_option maxHeartbeats 4000000 in
theorem mx_pure_ok (hx : p.tables.exec = Jvm.exec) {cc : ByteArray} (hb : c.code = cc) {pc nL len n : Nat} {ls : Array Slot} {lv : mx_L} {st : List Value} {i : Jvm.ClassFile.Instr} {rh : Nat → Nat} {z : Nat × mx_L × List Value} (hd : decode cc pc = .ok (i, len)) (hl : lv_has ls nL (mx_trL rh lv)) (hlo : mx_okL n lv) (hso : mx_okS n st)
    (h : mx_pure nL pc lv st i len = some z) (kk : ∀ ls2 : Array Slot, lv_has ls2 nL (mx_trL rh z.2.1) → mx_okL n z.2.1 → mx_okS n z.2.2 → W p l e R s m args below meth c H locs cells slots Q (F0 m z.1 ls2 (mx_trS rh z.2.2))) : W p l e R s m args below meth c H locs cells slots Q (F0 m pc ls (mx_trS rh st)) := by
  unfold mx_pure at h
  cases i
  case iconst n =>
    dsimp only at h
    replace h := mx_ifk h; obtain ⟨rfl, h⟩ := h
    cases h; exact lv_iconst hx hb hd rfl (kk ls hl hlo (hso.i))
  case bipush n =>
    dsimp only at h
    replace h := mx_ifk h; obtain ⟨rfl, h⟩ := h
    cases h; exact lv_bipush hx hb hd rfl (kk ls hl hlo (hso.i))
  case sipush n =>
    dsimp only at h
    replace h := mx_ifk h; obtain ⟨rfl, h⟩ := h
    cases h; exact lv_sipush hx hb hd rfl (kk ls hl hlo (hso.i))
  case lconst n =>
    dsimp only at h
    replace h := mx_ifk h; obtain ⟨rfl, h⟩ := h
    cases h; exact lv_lconst hx hb hd rfl (kk ls hl hlo (hso.l))
  case aconst_null =>
    dsimp only at h
    replace h := mx_ifk h; obtain ⟨rfl, h⟩ := h
    cases h; exact lv_null hx hb hd (kk ls hl hlo (hso.z))
  case iload i =>
    dsimp only at h
    replace h := mx_ifk h; obtain ⟨rfl, h⟩ := h
    replace h := mx_gi_el h; obtain ⟨x, hg, h⟩ := h; cases h; exact lv_iload hx hb hd (mx_at_has hl hg) (kk ls hl hlo hso.i)
  case iload_n i =>
    dsimp only at h
    replace h := mx_ifk h; obtain ⟨rfl, h⟩ := h
    replace h := mx_gi_el h; obtain ⟨x, hg, h⟩ := h; cases h; exact lv_iload_n hx hb hd rfl (mx_at_has hl hg) (kk ls hl hlo hso.i)
  case lload i =>
    dsimp only at h
    replace h := mx_ifk h; obtain ⟨rfl, h⟩ := h
    replace h := mx_gl_el h; obtain ⟨x, hg, h⟩ := h; cases h; exact lv_lload hx hb hd (mx_at_has hl hg) (kk ls hl hlo hso.l)
  case lload_n i =>
    dsimp only at h
    replace h := mx_ifk h; obtain ⟨rfl, h⟩ := h
    replace h := mx_gl_el h; obtain ⟨x, hg, h⟩ := h; cases h; exact lv_lload_n hx hb hd rfl (mx_at_has hl hg) (kk ls hl hlo hso.l)
  case aload i =>
    dsimp only at h
    replace h := mx_ifk h; obtain ⟨rfl, h⟩ := h
    replace h := mx_gr_el h; obtain ⟨x, hg, h⟩ := h; cases h; cases x with
    | none => exact lv_aloadN hx hb hd (mx_at_has hl hg) (kk ls hl hlo hso.z)
    | some a => exact lv_aload hx hb hd (mx_at_has hl hg) (kk ls hl hlo (hso.c (hlo.get hg)))
  case aload_n i =>
    dsimp only at h
    replace h := mx_ifk h; obtain ⟨rfl, h⟩ := h
    replace h := mx_gr_el h; obtain ⟨x, hg, h⟩ := h; cases h; cases x with
    | none => exact lv_aload_nN hx hb hd rfl (mx_at_has hl hg) (kk ls hl hlo hso.z)
    | some a => exact lv_aload_n hx hb hd rfl (mx_at_has hl hg) (kk ls hl hlo (hso.c (hlo.get hg)))
  case istore i =>
    dsimp only at h
    replace h := mx_ifk h; obtain ⟨rfl, h⟩ := h
    replace h := mx_i1_el h; obtain ⟨x, r, rfl, h⟩ := h; replace h := mx_ifk h; obtain ⟨hn, h⟩ := h; cases h; exact lv_istore hx hb hd hl hn (mx_set_tr rh lv i (.int x)) (fun ls2 hl2 => kk ls2 hl2 (hlo.set trivial) hso.t)
  case istore_n i =>
    dsimp only at h
    replace h := mx_ifk h; obtain ⟨rfl, h⟩ := h
    replace h := mx_i1_el h; obtain ⟨x, r, rfl, h⟩ := h; replace h := mx_ifk h; obtain ⟨hn, h⟩ := h; cases h; exact lv_istore_n hx hb hd rfl hl hn (mx_set_tr rh lv i.val (.int x)) (fun ls2 hl2 => kk ls2 hl2 (hlo.set trivial) hso.t)
  case lstore i =>
    dsimp only at h
    replace h := mx_ifk h; obtain ⟨rfl, h⟩ := h
    replace h := mx_l1_el h; obtain ⟨x, r, rfl, h⟩ := h; replace h := mx_ifk h; obtain ⟨hn, h⟩ := h; cases h; exact lv_lstore hx hb hd hl hn (mx_setL_tr rh lv i (.long x)) (fun ls2 hl2 => kk ls2 hl2 (hlo.setL trivial) hso.t)
  case lstore_n i =>
    dsimp only at h
    replace h := mx_ifk h; obtain ⟨rfl, h⟩ := h
    replace h := mx_l1_el h; obtain ⟨x, r, rfl, h⟩ := h; replace h := mx_ifk h; obtain ⟨hn, h⟩ := h; cases h; exact lv_lstore_n hx hb hd rfl hl hn (mx_setL_tr rh lv i.val (.long x)) (fun ls2 hl2 => kk ls2 hl2 (hlo.setL trivial) hso.t)
  case astore i =>
    dsimp only at h
    replace h := mx_ifk h; obtain ⟨rfl, h⟩ := h
    replace h := mx_r1_el h; obtain ⟨x, r, rfl, h⟩ := h; replace h := mx_ifk h; obtain ⟨hn, h⟩ := h; cases h; cases x with
    | none => exact lv_astoreN hx hb hd hl hn (mx_set_tr rh lv i .null) (fun ls2 hl2 => kk ls2 hl2 (hlo.set trivial) hso.t)
    | some a => exact lv_astore hx hb hd hl hn (mx_set_tr rh lv i (.ref a)) (fun ls2 hl2 => kk ls2 hl2 (hlo.set hso.hd) hso.t)
  case astore_n i =>
    dsimp only at h
    replace h := mx_ifk h; obtain ⟨rfl, h⟩ := h
    replace h := mx_r1_el h; obtain ⟨x, r, rfl, h⟩ := h; replace h := mx_ifk h; obtain ⟨hn, h⟩ := h; cases h; cases x with
    | none => exact lv_astore_nN hx hb hd rfl hl hn (mx_set_tr rh lv i.val .null) (fun ls2 hl2 => kk ls2 hl2 (hlo.set trivial) hso.t)
    | some a => exact lv_astore_n hx hb hd rfl hl hn (mx_set_tr rh lv i.val (.ref a)) (fun ls2 hl2 => kk ls2 hl2 (hlo.set hso.hd) hso.t)
  case iinc i n =>
    dsimp only at h
    replace h := mx_ifk h; obtain ⟨rfl, h⟩ := h
    replace h := mx_gi_el h; obtain ⟨x, hg, h⟩ := h; replace h := mx_ifk h; obtain ⟨hn, h⟩ := h; cases h
    obtain ⟨k, hk⟩ := List.getElem?_of_mem (List.mem_map.mpr ⟨(i, .int x), mx_at_mem hg, rfl⟩ : (i, mx_tr rh (.int x)) ∈ mx_trL rh lv)
    exact lv_iinc hx hb hd hl hk rfl hn (mx_set_tr rh lv i (.int (x + Int32.ofInt n))) (fun ls2 hl2 => kk ls2 hl2 (hlo.set trivial) hso)
  case iadd =>
    dsimp only at h
    replace h := mx_ifk h; obtain ⟨rfl, h⟩ := h
    replace h := mx_i2_el h; obtain ⟨x, y, r, rfl, h⟩ := h; cases h; exact lv_iadd hx hb hd (kk ls hl hlo hso.t.t.i)
  case isub =>
    dsimp only at h
    replace h := mx_ifk h; obtain ⟨rfl, h⟩ := h
    replace h := mx_i2_el h; obtain ⟨x, y, r, rfl, h⟩ := h; cases h; exact lv_isub hx hb hd (kk ls hl hlo hso.t.t.i)
  case imul =>
    dsimp only at h
    replace h := mx_ifk h; obtain ⟨rfl, h⟩ := h
    replace h := mx_i2_el h; obtain ⟨x, y, r, rfl, h⟩ := h; cases h; exact lv_imul hx hb hd (kk ls hl hlo hso.t.t.i)
  case iand =>
    dsimp only at h
    replace h := mx_ifk h; obtain ⟨rfl, h⟩ := h
    replace h := mx_i2_el h; obtain ⟨x, y, r, rfl, h⟩ := h; cases h; exact lv_iand hx hb hd (kk ls hl hlo hso.t.t.i)
  case ior =>
    dsimp only at h
    replace h := mx_ifk h; obtain ⟨rfl, h⟩ := h
    replace h := mx_i2_el h; obtain ⟨x, y, r, rfl, h⟩ := h; cases h; exact lv_ior hx hb hd (kk ls hl hlo hso.t.t.i)
  case ixor =>
    dsimp only at h
    replace h := mx_ifk h; obtain ⟨rfl, h⟩ := h
    replace h := mx_i2_el h; obtain ⟨x, y, r, rfl, h⟩ := h; cases h; exact lv_ixor hx hb hd (kk ls hl hlo hso.t.t.i)
  case ishl =>
    dsimp only at h
    replace h := mx_ifk h; obtain ⟨rfl, h⟩ := h
    replace h := mx_i2_el h; obtain ⟨x, y, r, rfl, h⟩ := h; cases h; exact lv_ishl hx hb hd (kk ls hl hlo hso.t.t.i)
  case ishr =>
    dsimp only at h
    replace h := mx_ifk h; obtain ⟨rfl, h⟩ := h
    replace h := mx_i2_el h; obtain ⟨x, y, r, rfl, h⟩ := h; cases h; exact lv_ishr hx hb hd (kk ls hl hlo hso.t.t.i)
  case iushr =>
    dsimp only at h
    replace h := mx_ifk h; obtain ⟨rfl, h⟩ := h
    replace h := mx_i2_el h; obtain ⟨x, y, r, rfl, h⟩ := h; cases h; exact lv_iushr hx hb hd rfl (kk ls hl hlo hso.t.t.i)
  case idiv =>
    dsimp only at h
    replace h := mx_ifk h; obtain ⟨rfl, h⟩ := h
    replace h := mx_i2_el h; obtain ⟨x, y, r, rfl, h⟩ := h; by_cases hy : y = 0
    · rw [if_pos hy] at h; cases h
    · rw [if_neg hy] at h; cases h; exact lv_idiv hx hb hd hy (kk ls hl hlo hso.t.t.i)
  case irem =>
    dsimp only at h
    replace h := mx_ifk h; obtain ⟨rfl, h⟩ := h
    replace h := mx_i2_el h; obtain ⟨x, y, r, rfl, h⟩ := h; by_cases hy : y = 0
    · rw [if_pos hy] at h; cases h
    · rw [if_neg hy] at h; cases h; exact lv_irem hx hb hd hy (kk ls hl hlo hso.t.t.i)
  case ineg =>
    dsimp only at h
    replace h := mx_ifk h; obtain ⟨rfl, h⟩ := h
    replace h := mx_i1_el h; obtain ⟨x, r, rfl, h⟩ := h; cases h; exact lv_ineg hx hb hd (kk ls hl hlo hso.t.i)
  case ladd =>
    dsimp only at h
    replace h := mx_ifk h; obtain ⟨rfl, h⟩ := h
    replace h := mx_l2_el h; obtain ⟨x, y, r, rfl, h⟩ := h; cases h; exact lv_ladd hx hb hd (kk ls hl hlo hso.t.t.l)
  case lsub =>
    dsimp only at h
    replace h := mx_ifk h; obtain ⟨rfl, h⟩ := h
    replace h := mx_l2_el h; obtain ⟨x, y, r, rfl, h⟩ := h; cases h; exact lv_lsub hx hb hd (kk ls hl hlo hso.t.t.l)
  case lmul =>
    dsimp only at h
    replace h := mx_ifk h; obtain ⟨rfl, h⟩ := h
    replace h := mx_l2_el h; obtain ⟨x, y, r, rfl, h⟩ := h; cases h; exact lv_lmul hx hb hd (kk ls hl hlo hso.t.t.l)
  case lcmp =>
    dsimp only at h
    replace h := mx_ifk h; obtain ⟨rfl, h⟩ := h
    replace h := mx_l2_el h; obtain ⟨x, y, r, rfl, h⟩ := h; cases h; exact pw_lcmp hx hb hd (kk ls hl hlo hso.t.t.i)
  case i2b =>
    dsimp only at h
    replace h := mx_ifk h; obtain ⟨rfl, h⟩ := h
    replace h := mx_i1_el h; obtain ⟨x, r, rfl, h⟩ := h; cases h; exact lv_i2b hx hb hd rfl (kk ls hl hlo hso.t.i)
  case i2s =>
    dsimp only at h
    replace h := mx_ifk h; obtain ⟨rfl, h⟩ := h
    replace h := mx_i1_el h; obtain ⟨x, r, rfl, h⟩ := h; cases h; exact lv_i2s hx hb hd rfl (kk ls hl hlo hso.t.i)
  case i2c =>
    dsimp only at h
    replace h := mx_ifk h; obtain ⟨rfl, h⟩ := h
    replace h := mx_i1_el h; obtain ⟨x, r, rfl, h⟩ := h; cases h; exact lv_i2c hx hb hd rfl (kk ls hl hlo hso.t.i)
  case i2l =>
    dsimp only at h
    replace h := mx_ifk h; obtain ⟨rfl, h⟩ := h
    replace h := mx_i1_el h; obtain ⟨x, r, rfl, h⟩ := h; cases h; exact lv_i2l hx hb hd rfl (kk ls hl hlo hso.t.l)
  case l2i =>
    dsimp only at h
    replace h := mx_ifk h; obtain ⟨rfl, h⟩ := h
    replace h := mx_l1_el h; obtain ⟨x, r, rfl, h⟩ := h; cases h; exact lv_l2i hx hb hd rfl (kk ls hl hlo hso.t.i)
  case dup =>
    dsimp only at h
    replace h := mx_ifk h; obtain ⟨rfl, h⟩ := h
    replace h := mx_v1_el h; obtain ⟨v, r, rfl, hc, h⟩ := h; cases h; exact lv_dup hx hb hd ((mx_tr_cat rh v).trans hc) (kk ls hl hlo (hso.c hso.hd))
  case pop =>
    dsimp only at h
    replace h := mx_ifk h; obtain ⟨rfl, h⟩ := h
    replace h := mx_v1_el h; obtain ⟨v, r, rfl, hc, h⟩ := h; cases h; exact lv_pop hx hb hd ((mx_tr_cat rh v).trans hc) (kk ls hl hlo hso.t)
  case dup_x1 =>
    dsimp only at h
    replace h := mx_ifk h; obtain ⟨rfl, h⟩ := h
    replace h := mx_v1_el h; obtain ⟨v, r, rfl, hc, h⟩ := h; replace h := mx_v1_el h; obtain ⟨w, r2, rfl, hc2, h⟩ := h; cases h; exact lv_dup_x1 hx hb hd ((mx_tr_cat rh v).trans hc) ((mx_tr_cat rh w).trans hc2) (kk ls hl hlo (((hso.t.t.c hso.hd).c hso.t.hd).c hso.hd))
  case dup2 =>
    dsimp only at h
    replace h := mx_ifk h; obtain ⟨rfl, h⟩ := h
    replace h := mx_v1_el h; obtain ⟨v, r, rfl, hc, h⟩ := h; replace h := mx_v1_el h; obtain ⟨w, r2, rfl, hc2, h⟩ := h; cases h; exact lv_dup2_11 hx hb hd ((mx_tr_cat rh v).trans hc) ((mx_tr_cat rh w).trans hc2) (kk ls hl hlo ((hso.c hso.t.hd).c hso.hd))
  case goto off =>
    dsimp only at h
    replace h := mx_ifk h; obtain ⟨rfl, h⟩ := h
    replace h := mx_tgk h; obtain ⟨tgt, ht, h⟩ := h; cases h; exact lv_goto hx hb hd ht (kk ls hl hlo hso)
  case ifCond cd off =>
    dsimp only at h
    replace h := mx_ifk h; obtain ⟨rfl, h⟩ := h
    replace h := mx_i1_el h; obtain ⟨x, r, rfl, h⟩ := h; replace h := mx_tgk h; obtain ⟨tgt, ht, h⟩ := h; have hso2 := hso.t; cases cd with
    | eq => exact lv_if_eq hx hb hd ht (fun hc => by rw [show mx_cnd .eq x 0 = true from decide_eq_true hc] at h; cases h; exact kk ls hl hlo hso2) (fun hc => by rw [show mx_cnd .eq x 0 = false from decide_eq_false hc] at h; cases h; exact kk ls hl hlo hso2)
    | ne => exact lv_if_ne hx hb hd ht (fun hc => by rw [show mx_cnd .ne x 0 = true by simp [mx_cnd, hc]] at h; cases h; exact kk ls hl hlo hso2) (fun hc => by rw [show mx_cnd .ne x 0 = false by simp [mx_cnd, hc]] at h; cases h; exact kk ls hl hlo hso2)
    | lt => exact lv_if_lt hx hb hd ht (fun hc => by rw [show mx_cnd .lt x 0 = true from decide_eq_true hc] at h; cases h; exact kk ls hl hlo hso2) (fun hc => by rw [show mx_cnd .lt x 0 = false from decide_eq_false hc] at h; cases h; exact kk ls hl hlo hso2)
    | ge => exact lv_if_ge hx hb hd ht (fun hc => by rw [show mx_cnd .ge x 0 = true from decide_eq_true hc] at h; cases h; exact kk ls hl hlo hso2) (fun hc => by rw [show mx_cnd .ge x 0 = false from decide_eq_false hc] at h; cases h; exact kk ls hl hlo hso2)
    | gt => exact lv_if_gt hx hb hd ht (fun hc => by rw [show mx_cnd .gt x 0 = true from decide_eq_true hc] at h; cases h; exact kk ls hl hlo hso2) (fun hc => by rw [show mx_cnd .gt x 0 = false from decide_eq_false hc] at h; cases h; exact kk ls hl hlo hso2)
    | le => exact lv_if_le hx hb hd ht (fun hc => by rw [show mx_cnd .le x 0 = true from decide_eq_true hc] at h; cases h; exact kk ls hl hlo hso2) (fun hc => by rw [show mx_cnd .le x 0 = false from decide_eq_false hc] at h; cases h; exact kk ls hl hlo hso2)
  case if_icmp cd off =>
    dsimp only at h
    replace h := mx_ifk h; obtain ⟨rfl, h⟩ := h
    replace h := mx_i2_el h; obtain ⟨x, y, r, rfl, h⟩ := h; replace h := mx_tgk h; obtain ⟨tgt, ht, h⟩ := h; have hso2 := hso.t.t; cases cd with
    | eq => exact lv_icmp_eq hx hb hd ht (fun hc => by rw [show mx_cnd .eq x y = true from decide_eq_true hc] at h; cases h; exact kk ls hl hlo hso2) (fun hc => by rw [show mx_cnd .eq x y = false from decide_eq_false hc] at h; cases h; exact kk ls hl hlo hso2)
    | ne => exact lv_icmp_ne hx hb hd ht (fun hc => by rw [show mx_cnd .ne x y = true by simp [mx_cnd, hc]] at h; cases h; exact kk ls hl hlo hso2) (fun hc => by rw [show mx_cnd .ne x y = false by simp [mx_cnd, hc]] at h; cases h; exact kk ls hl hlo hso2)
    | lt => exact lv_icmp_lt hx hb hd ht (fun hc => by rw [show mx_cnd .lt x y = true from decide_eq_true hc] at h; cases h; exact kk ls hl hlo hso2) (fun hc => by rw [show mx_cnd .lt x y = false from decide_eq_false hc] at h; cases h; exact kk ls hl hlo hso2)
    | ge => exact lv_icmp_ge hx hb hd ht (fun hc => by rw [show mx_cnd .ge x y = true from decide_eq_true hc] at h; cases h; exact kk ls hl hlo hso2) (fun hc => by rw [show mx_cnd .ge x y = false from decide_eq_false hc] at h; cases h; exact kk ls hl hlo hso2)
    | gt => exact lv_icmp_gt hx hb hd ht (fun hc => by rw [show mx_cnd .gt x y = true from decide_eq_true hc] at h; cases h; exact kk ls hl hlo hso2) (fun hc => by rw [show mx_cnd .gt x y = false from decide_eq_false hc] at h; cases h; exact kk ls hl hlo hso2)
    | le => exact lv_icmp_le hx hb hd ht (fun hc => by rw [show mx_cnd .le x y = true from decide_eq_true hc] at h; cases h; exact kk ls hl hlo hso2) (fun hc => by rw [show mx_cnd .le x y = false from decide_eq_false hc] at h; cases h; exact kk ls hl hlo hso2)
  case ifnull off =>
    dsimp only at h
    replace h := mx_ifk h; obtain ⟨rfl, h⟩ := h
    replace h := mx_r1_el h; obtain ⟨x, r, rfl, h⟩ := h; replace h := mx_tgk h; obtain ⟨tgt, ht, h⟩ := h; cases x with
    | none => cases h; exact lv_ifnullN hx hb hd ht (kk ls hl hlo hso.t)
    | some a => cases h; exact lv_ifnull hx hb hd (kk ls hl hlo hso.t)
  case ifnonnull off =>
    dsimp only at h
    replace h := mx_ifk h; obtain ⟨rfl, h⟩ := h
    replace h := mx_r1_el h; obtain ⟨x, r, rfl, h⟩ := h; replace h := mx_tgk h; obtain ⟨tgt, ht, h⟩ := h; cases x with
    | none => cases h; exact lv_ifnonnullN hx hb hd (kk ls hl hlo hso.t)
    | some a => cases h; exact lv_ifnonnull hx hb hd ht (kk ls hl hlo hso.t)
  case lookupswitch dflt ps =>
    dsimp only at h
    replace h := mx_i1_el h; obtain ⟨x, r, rfl, h⟩ := h; replace h := mx_ifk h; obtain ⟨hp, h⟩ := h; replace h := mx_tgk h; obtain ⟨tgt, ht, h⟩ := h; cases h; exact lv_lookup hx hb hd hp rfl ht (kk ls hl hlo hso.t)
  case tableswitch dflt lo hi offs =>
    dsimp only at h
    replace h := mx_i1_el h; obtain ⟨x, r, rfl, h⟩ := h; by_cases hc : x.toInt < lo ∨ hi < x.toInt
    · rw [if_pos hc] at h; replace h := mx_tgk h; obtain ⟨tgt, ht, h⟩ := h; cases h; exact lv_tableOut hx hb hd hc ht (kk ls hl hlo hso.t)
    · rw [if_neg hc] at h
      cases ho : offs[(x.toInt - lo).toNat]? with
      | none => rw [ho] at h; cases h
      | some off => rw [ho] at h; replace h := mx_tgk h; obtain ⟨tgt, ht, h⟩ := h; cases h; exact lv_tableIn hx hb hd (fun q => hc (Or.inl q)) (fun q => hc (Or.inr q)) ho ht (kk ls hl hlo hso.t)
  all_goals (dsimp only at h; cases h)
end MXP
