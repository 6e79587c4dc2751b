/-- what comes back -/
def mx_ret (ret : Option FieldType) (st : List Value) (i : Jvm.ClassFile.Instr) (len : Nat) : Option (Option Value) := match i with
  | .ireturn => if len = 1 then mx_i1 st fun v r => if r = [] then mx_sv ret fun ty => if narrow ty (.int v) = .int v then some (some (.int v)) else none else none else none
  | .lreturn => if len = 1 then mx_l1 st fun v r => if r = [] ∧ ret = some .long then some (some (.long v)) else none else none
  | .areturn => if len = 1 then mx_r1 st fun v r => if r = [] then mx_sv ret fun ty => if ty.isReference = true then some (some (va_rf v)) else none else none else none
  | .return_ => if len = 1 ∧ st = [] ∧ ret = none then some none else none
  | _ => none
/-- the fields of a new object -/
def mx_dfl (G : mx_G) (ci : Nat) : Nat → Option (List Value)
  | 0 => some []
  | n + 1 => mx_sv (mx_dfl G ci n) fun fs => mx_sv (G.2.2.1 ci n) fun q => some (fs ++ [defaultValue q.1])
theorem mx_dfl_ok (G : mx_G) (ci : Nat) : ∀ (n : Nat) (fs : List Value), mx_dfl G ci n = some fs → fs.length = n ∧ ∀ j, j < n → ∃ q, G.2.2.1 ci j = some q ∧ fs[j]? = some (defaultValue q.1) := by
  intro n
  induction n with
  | zero => intro fs h; cases h; exact ⟨rfl, fun j hj => absurd hj (Nat.not_lt_zero _)⟩
  | succ n ih =>
    intro fs h
    unfold mx_dfl at h
    obtain ⟨gs, h1, h⟩ := mx_sv_el h
    obtain ⟨q, h2, h⟩ := mx_sv_el h
    cases h
    obtain ⟨e1, e2⟩ := ih gs h1
    refine ⟨by simp [e1], fun j hj => ?_⟩
    by_cases hjn : j < n
    · obtain ⟨q2, a1, a2⟩ := e2 j hjn
      exact ⟨q2, a1, by rw [List.getElem?_append_left (by omega)]; exact a2⟩
    · have hj2 : j = n := by omega
      subst hj2
      exact ⟨q, h2, by rw [List.getElem?_append_right (by omega), e1, Nat.sub_self]; rfl⟩
/-- a new cell: the stack behind it (without the new reference), the cell, its slots -/
def mx_new (G : mx_G) (cn : Nat → Option String) (F L : Nat) (y : MethodName) (st : List Value) (h : mx_H) (i : Jvm.ClassFile.Instr) (len : Nat) : Option (List Value × mx_E × Nat) := match i with
  | .new ix => if len = 3 then mx_rs (G.2.1 y.cls ix) 9 fun ci N => mx_sv (mx_dfl G ci N) fun fs => some (st, .inr (ci, fs), N) else none
  | .newarray at1 => if len = 2 then mx_i1 st fun n r => if ¬ n < 0 ∧ n.toNatClampNeg * componentBytes (newarray.typeOf at1) ≤ 536870912 ∧ (newarray.typeOf at1 = .int ∨ newarray.typeOf at1 = .byte ∨ newarray.typeOf at1 = .boolean) then some (r, .inl (newarray.typeOf at1, n.toNatClampNeg, .inl (fun _ => 0)), n.toNatClampNeg) else none else none
  | .anewarray ix => if len = 3 then mx_i1 st fun n r => if ¬ n < 0 ∧ n.toNatClampNeg * 4 ≤ 536870912 then mx_sv (G.2.1 y.cls (ix + 100000)) fun q => if q.1 = 10 then mx_sv (cn q.2.1) fun C => some (r, .inl (.object C, n.toNatClampNeg, .inr (.inr (.inr (.inr (fun _ => none))))), n.toNatClampNeg) else if q.1 = 11 then some (r, .inl (.array .byte, n.toNatClampNeg, .inr (.inr (.inr (.inr (fun _ => none))))), n.toNatClampNeg) else none else none else none
  | .invokevirtual ix => if len = 3 then mx_rs (G.2.1 y.cls ix) 18 fun _ _ => mx_ra st fun a r => mx_ai h a fun ty n f => if ty = .byte ∧ (List.range n).all (fun j => fits .byte (.int (f j))) = true ∧ 1 ≤ F ∧ (r.map fun v => v.category).sum + 14 ≤ L then some (r, .inl (.byte, n, .inl f), n) else none else none
  | _ => none
/-- constants, Object's own constructor, System.arraycopy: the stack and the cells behind it -/
def mx_odd (G : mx_G) (F L : Nat) (y : MethodName) (st : List Value) (h : mx_H) (i : Jvm.ClassFile.Instr) (len : Nat) : Option (List Value × mx_H) := match i with
  | .checkcast ix => if len = 3 then mx_rs (G.2.1 y.cls (ix + 200000)) 19 fun _ _ => mx_ra st fun a r => mx_av h a fun ty _ => if ty = .byte then some (.ref a :: r, h) else none else none
  | .ldc ix => if len = 2 then mx_sv (G.2.1 y.cls ix) fun q => if q.1 = 7 then some (.int (Int32.ofNat q.2.1) :: st, h) else if q.1 = 12 then some (.ref (1000000000 + q.2.1) :: st, h) else none else none
  | .ldc_w ix => if len = 3 then mx_rs (G.2.1 y.cls ix) 12 fun k _ => some (.ref (1000000000 + k) :: st, h) else none
  | .ldc2_w ix => if len = 3 then mx_rs (G.2.1 y.cls ix) 8 fun k _ => some (.long (Int64.ofNat k) :: st, h) else none
  | .invokespecial ix => if len = 3 ∧ 1 ≤ F then mx_rs (G.2.1 y.cls ix) 5 fun _ _ => mx_ra st fun _ r => if (r.map fun v => v.category).sum + 12 ≤ L then some (r, h) else none else none
  | .invokestatic ix => if len = 3 ∧ 1 ≤ F then mx_sv (G.2.1 y.cls ix) fun q => if q.1 = 6 then (mx_i1 st fun n r1 => mx_ia r1 fun dp b r2 => mx_ia r2 fun sp a r => mx_ai h a fun ty n0 f => mx_ai h b fun ty2 n1 g => if cp_ok sp dp n n0 n1 = true ∧ cp_fit ty f sp n = true ∧ refKind ty = false ∧ ty2 = ty ∧ (r.map fun v => v.category).sum + (nativeFrameWords "java/lang/System" "arraycopy" 5 + 11) ≤ L then some (r, h.set b (.inl (ty, n1, .inl (va_cpy f g sp.toNatClampNeg dp.toNatClampNeg n.toNatClampNeg)))) else none) else if q.1 = 13 then mx_i2 st fun x y r => (if (r.map fun v => v.category).sum + 13 ≤ L then some (.int (if x < y then y else x) :: r, h) else none) else if q.1 = 14 then mx_i2 st fun x y r => (if (r.map fun v => v.category).sum + 13 ≤ L then some (.int (if y < x then y else x) :: r, h) else none) else if q.1 = 15 then mx_l2 st fun x y r => (if (r.map fun v => v.category).sum + 15 ≤ L then some (.long (if y < x then y else x) :: r, h) else none) else none else none
  | .iaload => if len = 1 then mx_ia st fun j a r => if a = 2000000000 ∧ ¬ (j < 0 ∨ G.2.2.2.1.1 ≤ j.toNatClampNeg) then some (.int (G.2.2.2.1.2 j.toNatClampNeg) :: r, h) else none else none
  | .arraylength => if len = 1 then mx_ra st fun a r => if a = 2000000000 then some (.int (Int32.ofNat G.2.2.2.1.1) :: r, h) else none else none
  | _ => none
/-- String.charAt and String.length of a text of the program -/
def mx_str (G : mx_G) (F L : Nat) (y : MethodName) (st : List Value) (i : Jvm.ClassFile.Instr) (len : Nat) : Option (List Value) := match i with
  | .invokevirtual ix => if len = 3 then mx_sv (G.2.1 y.cls ix) fun q => if q.1 = 16 then mx_ia st fun j a r => mx_sv (G.2.2.2.2 a) fun t => (if ¬ (j < 0 ∨ t.1 ≤ j.toNatClampNeg) ∧ t.1 < 2147483648 ∧ 4 ≤ F ∧ 85 ≤ L ∧ (r.map fun v => v.category).sum ≤ 8 then some (.int (((t.2 j.toNatClampNeg) &&& 255).toUInt32 % 65536).toInt32 :: r) else none) else if q.1 = 17 then mx_ra st fun a r => mx_sv (G.2.2.2.2 a) fun t => (if 2 ≤ F ∧ 40 ≤ L ∧ (r.map fun v => v.category).sum ≤ 8 then some (.int (nI t.1) :: r) else none) else none else none
  | _ => none
/-- a call: the method, all that it is given, the stack below; its kind -/
def mx_call (G : mx_G) (y : MethodName) (st : List Value) (i : Jvm.ClassFile.Instr) (len : Nat) : Option (Nat × Nat × List Value × List Value) := match i with
  | .invokevirtual ix => if len = 3 then mx_rs (G.2.1 y.cls ix) 1 fun nu n => mx_ra (st.drop n) fun b r => if n ≤ st.length then some (1, nu, .ref b :: (st.take n).reverse, r) else none else none
  | .invokestatic ix => if len = 3 then mx_rs (G.2.1 y.cls ix) 2 fun nu n => if n ≤ st.length then some (2, nu, (st.take n).reverse, st.drop n) else none else none
  | .invokespecial ix => if len = 3 then mx_sv (G.2.1 y.cls ix) fun q => mx_ra (st.drop q.2.2) fun b r => if q.2.2 ≤ st.length ∧ (q.1 = 3 ∨ q.1 = 4) then some (q.1, q.2.1, .ref b :: (st.take q.2.2).reverse, r) else none else none
  | _ => none
/-- a receiver is of its method's class -/
def mx_rcv (cn : Nat → Option String) (kd : Nat) (As : List Value) (h : mx_H) (C : String) : Bool := if kd = 1 then (match As with
  | .ref b :: _ => (match h[b]? with
    | some (.inr (ci, _)) => decide (cn ci = some C)
    | _ => false)
  | _ => false) else true
def mx_dc {α : Type} (cc : ByteArray) (pc : Nat) (F : Jvm.ClassFile.Instr → Nat → Option α) : Option α := match decode cc pc with
  | .ok q => F q.1 q.2
  | _ => none
theorem mx_dc_el {α : Type} {cc : ByteArray} {pc : Nat} {F : Jvm.ClassFile.Instr → Nat → Option α} {z : α} (h : mx_dc cc pc F = some z) : ∃ i len, decode cc pc = .ok (i, len) ∧ F i len = some z := by
  unfold mx_dc at h
  split at h
  · rename_i q hq
    exact ⟨q.1, q.2, hq, h⟩
  · cases h
/-- a run: fuel; room of frames and locals; method, place, locals, stack, cells; cells and slots made so far -/
def mx_go (G : mx_G) (cn : Nat → Option String) : Nat → Nat → Nat → Nat → Nat → mx_L → List Value → mx_H → Nat → Nat → Option (Option Value × mx_H × Nat × Nat)
  | 0, _, _, _, _, _, _, _, _, _ => none
  | n + 1, F, L, mu, pc, lv, st, h, cells, slots => mx_sv (G.1 mu) fun q => mx_dc q.2.1 pc fun i len =>
    match mx_pure q.2.2.1 pc lv st i len with
    | some z => mx_go G cn n F L mu z.1 z.2.1 z.2.2 h cells slots
    | none => match mx_heap G cn q.1 st h i len with
      | some z => mx_go G cn n F L mu (pc + len) lv z.1 z.2 cells slots
      | none => match mx_ret q.2.2.2 st i len with
        | some v => some (v, h, cells, slots)
        | none => match mx_odd G F L q.1 st h i len with
          | some z => mx_go G cn n F L mu (pc + len) lv z.1 z.2 cells slots
          | none => match mx_str G F L q.1 st i len with
           | some z => mx_go G cn n F L mu (pc + len) lv z h cells slots
           | none => match mx_new G cn F L q.1 st h i len with
            | some z => if h.length < 1000000000 then mx_go G cn n F L mu (pc + len) lv (.ref h.length :: z.1) (h ++ [z.2.1]) (cells + 1) (slots + z.2.2) else none
            | none => mx_sv (mx_call G q.1 st i len) fun z => mx_sv (G.1 z.2.1) fun w =>
              if mx_rcv cn z.1 z.2.2.1 h w.1.cls = true ∧ (z.2.2.2.map fun v => v.category).sum ≤ 8 ∧ (lg_sl z.2.2.1).length ≤ w.2.2.1 ∧ 1 ≤ F ∧ 19 + w.2.2.1 ≤ L then
                mx_sv (mx_go G cn n (F - 1) (L - (19 + w.2.2.1)) z.2.1 0 (lv_args 0 z.2.2.1) [] h 0 0) fun u => mx_go G cn n F L mu (pc + 3) lv (u.1.toList ++ z.2.2.2) u.2.1 (cells + u.2.2.1) (slots + u.2.2.2)
              else none
/-- what must hold of new, of constants, of the two odd calls -/
def mx_nwOk (cl : List vw_C) (big : List Cond) (G : mx_G) : Prop := ∀ (own : String) (ix ci N : Nat), G.2.1 own ix = some (9, ci, N) → ∃ (C : String) (T : u_T), cl[ci]? = some (C, T, N) ∧ Cond.classLink own ix C ∈ big ∧ Cond.instantiable C N ∈ big ∧ Cond.initialized C ∈ big
def mx_naOk (big : List Cond) : Prop := Cond.arrayClass .int ∈ big ∧ Cond.arrayClass .byte ∈ big ∧ Cond.arrayClass .boolean ∈ big
def mx_anOk (big : List Cond) (G : mx_G) (cn : Nat → Option String) (Z : (Nat → Prop) → (Nat → Nat) → State → Heap → Prop) : Prop := (∀ (own : String) (ix ci k : Nat) (C : String), G.2.1 own (ix + 100000) = some (10, ci, k) → cn ci = some C → Cond.classLink own ix C ∈ big ∧ ∀ A rh U H, Z A rh U H → va_AO C U) ∧ ∀ (own : String) (ix a b : Nat), G.2.1 own (ix + 100000) = some (11, a, b) → Cond.classLink own ix "[B" ∈ big ∧ ∀ A rh U H, Z A rh U H → pb_AB U
def mx_cnOk (big : List Cond) (G : mx_G) (Z : (Nat → Prop) → (Nat → Nat) → State → Heap → Prop) : Prop := (∀ (own : String) (ix a b : Nat), G.2.1 own ix = some (18, a, b) → Cond.methodLink own ix ⟨"[B", "clone", "()Ljava/lang/Object;"⟩ ∈ big ∧ Cond.sameMethod "[B" "java/lang/Object" "clone" "()Ljava/lang/Object;" ∈ big ∧ Cond.native ⟨"java/lang/Object", "clone", "()Ljava/lang/Object;"⟩ ∈ big ∧ Cond.instanceMethod ⟨"java/lang/Object", "clone", "()Ljava/lang/Object;"⟩ ∈ big ∧ Cond.selects "[B" ⟨"[B", "clone", "()Ljava/lang/Object;"⟩ ⟨"java/lang/Object", "clone", "()Ljava/lang/Object;"⟩ ∈ big ∧ ∀ A rh U H, Z A rh U H → va_Nw (.castable "[B" "java/lang/Cloneable") U) ∧ ∀ (own : String) (ix a b : Nat), G.2.1 own (ix + 200000) = some (19, a, b) → Cond.classLink own ix "[B" ∈ big
def mx_coOk (big : List Cond) (G : mx_G) (Z : (Nat → Prop) → (Nat → Nat) → State → Heap → Prop) : Prop := (∀ (own : String) (ix a b : Nat), G.2.1 own ix = some (7, a, b) → Jvm.Cond.constant own ix (Int32.ofNat a) ∈ big) ∧ (∀ (own : String) (ix a b : Nat), G.2.1 own ix = some (8, a, b) → Jvm.Cond.constantLong own ix (Int64.ofNat a) ∈ big) ∧ ∀ (own : String) (ix k b : Nat), G.2.1 own ix = some (12, k, b) → ∃ tx, ∀ A rh U H, Z A rh U H → vk_R own ix tx (rh (1000000000 + k)) U
def mx_odOk (big : List Cond) (G : mx_G) : Prop := (∀ (own : String) (ix a b : Nat), G.2.1 own ix = some (5, a, b) → Cond.methodLink own ix Lib.objectInit ∈ big ∧ Cond.instanceMethod Lib.objectInit ∈ big ∧ Cond.code Lib.objectInit ⟨#[0xb1]⟩ 1 none ∈ big) ∧ (∀ (own : String) (ix a b : Nat), G.2.1 own ix = some (6, a, b) → Cond.methodLink own ix arraycopyName ∈ big ∧ Cond.native arraycopyName ∈ big ∧ Cond.static arraycopyName ∈ big ∧ Cond.initialized "java/lang/System" ∈ big) ∧ (∀ (own : String) (ix a b : Nat), G.2.1 own ix = some (13, a, b) → Cond.methodLink own ix Lib.Math.max.name ∈ big ∧ Cond.static Lib.Math.max.name ∈ big ∧ Cond.initialized "java/lang/Math" ∈ big ∧ Cond.code Lib.Math.max.name Lib.Math.max.code 2 (some .int) ∈ big) ∧ (∀ (own : String) (ix a b : Nat), G.2.1 own ix = some (14, a, b) → Cond.methodLink own ix Lib.Math.min.name ∈ big ∧ Cond.static Lib.Math.min.name ∈ big ∧ Cond.initialized "java/lang/Math" ∈ big ∧ Cond.code Lib.Math.min.name Lib.Math.min.code 2 (some .int) ∈ big) ∧ ∀ (own : String) (ix a b : Nat), G.2.1 own ix = some (15, a, b) → Cond.methodLink own ix Lib.MathLoose.min_long.x ∈ big ∧ Cond.static Lib.MathLoose.min_long.x ∈ big ∧ Cond.initialized "java/lang/Math" ∈ big ∧ Cond.code Lib.MathLoose.min_long.x Lib.MathLoose.min_long.code 4 (some .long) ∈ big
/-- the script is there -/
def mx_scOk (G : mx_G) (Z : (Nat → Prop) → (Nat → Nat) → State → Heap → Prop) : Prop := ∀ A rh U H, Z A rh U H → va_X (rh 2000000000) G.2.2.2.1.1 G.2.2.2.1.2 U H ∧ rh 2000000000 < H.size ∧ ¬ A (rh 2000000000)
section MXN
variable {p : Program} {l : Launch} {e : Env} {R : Room} {s : State} {m : MethodId} {args : Array Value} {below : List Frame} {meth : Method} {c : Code} {H : Heap} {locs : List Loc} {cells slots : Nat} {Q : State → Prop}
variable {cc : ByteArray} {pc : Nat} {ls : Array Slot} {rest : List Value} {D : va_G} {cl : List vw_C} {A : Nat → Prop} {H0 : Heap}
set_option maxHeartbeats 4000000 in
theorem mx_odd_ok (hx : p.tables.exec = Jvm.exec) (hb : c.code = cc) {G : mx_G} {big : List Cond} {Z : (Nat → Prop) → (Nat → Nat) → State → Heap → Prop} {y : MethodName} (hts : ∀ w ∈ big, w.before args s = true) (hown : s.vm.findClass y.cls = some m.cls) (hco : mx_coOk big G Z) (hod : mx_odOk big G) (hsc : mx_scOk G Z) (hcn : mx_cnOk big G Z)
    {len nL : Nat} {st : List Value} {h : mx_H} {lv : mx_L} {i : Jvm.ClassFile.Instr} {rh : Nat → Nat} {ka : Nat → ClassId} {z : List Value × mx_H} (hd : decode cc pc = .ok (i, len)) (hml : c.maxLocals = nL) (hl : lv_has ls nL (mx_trL rh lv)) (hK : va_K D cl [] s) (hZ : Z A rh s s.heap) (hR : mx_Rel D cl A rh ka h s H) (hS : va_S A s.heap H locs) (hso : mx_okS h.length st)
    (hc1 : cells ≤ R.cells) (hc2 : slots ≤ R.slots) (hz : mx_odd G R.frames R.locals y st h i len = some z) (kk : ∀ (H1 : Heap) (locs1 : List Loc), mx_Rel D cl A rh ka z.2 s H1 → va_S A s.heap H1 locs1 → mx_okS z.2.length z.1 → z.2.length = h.length → W p l e R s m args below meth c H1 locs1 cells slots Q (F0 m (pc + len) ls (mx_trS rh z.1))) : W p l e R s m args below meth c H locs cells slots Q (F0 m pc ls (mx_trS rh st)) := by
  obtain ⟨hP, hD, hho, har⟩ := hR
  have hsm : ∀ r : List Value, ((mx_trS rh r).map fun v => v.category).sum = (r.map fun v => v.category).sum := by
    intro r
    rw [List.map_map]
    congr 1
    exact List.map_congr_left (fun v _ => mx_tr_cat rh v)
  unfold mx_odd at hz
  cases i
  case checkcast ix =>
    dsimp only at hz
    replace hz := mx_ifk hz; obtain ⟨rfl, hz⟩ := hz
    replace hz := mx_rs_el hz; obtain ⟨a0, b0, hq, hz⟩ := hz
    replace hz := mx_ra_el hz; obtain ⟨a, r, rfl, hz⟩ := hz
    replace hz := mx_av_el hz; obtain ⟨ty, x, ho, hz⟩ := hz
    replace hz := mx_ifk hz; obtain ⟨rfl, hz⟩ := hz
    cases hz
    exact va_castA hx hb hown (hts _ (hcn.2 _ _ _ _ hq)) hP a (mx_ws_at ho) (har a _ _ ho).2.1 hd (kk H locs ⟨hP, hD, hho, har⟩ hS hso rfl)
  case ldc ix =>
    dsimp only at hz
    replace hz := mx_ifk hz; obtain ⟨rfl, hz⟩ := hz
    replace hz := mx_sv_el hz; obtain ⟨⟨t, a, b⟩, hq, hz⟩ := hz
    dsimp only at hz
    by_cases ht : t = 7
    · rw [if_pos ht] at hz
      subst ht
      cases hz
      exact lv_ldc hx hb hown (hts _ (hco.1 _ _ _ _ hq)) hd (kk H locs ⟨hP, hD, hho, har⟩ hS hso.i rfl)
    · rw [if_neg ht] at hz
      replace hz := mx_ifk hz; obtain ⟨rfl, hz⟩ := hz
      cases hz
      obtain ⟨tx, htx⟩ := hco.2.2 _ _ _ _ hq
      exact va_ldcS hx hb hown (htx _ _ _ _ hZ) hd (kk H locs ⟨hP, hD, hho, har⟩ hS (hso.c (Or.inr (Nat.le_add_right _ _))) rfl)
  case ldc_w ix =>
    dsimp only at hz
    replace hz := mx_ifk hz; obtain ⟨rfl, hz⟩ := hz
    replace hz := mx_rs_el hz; obtain ⟨k, b, hq, hz⟩ := hz
    cases hz
    obtain ⟨tx, htx⟩ := hco.2.2 _ _ _ _ hq
    exact pw_ldcwS hx hb hown (htx _ _ _ _ hZ) hd (kk H locs ⟨hP, hD, hho, har⟩ hS (hso.c (Or.inr (Nat.le_add_right _ _))) rfl)
  case ldc2_w ix =>
    dsimp only at hz
    replace hz := mx_ifk hz; obtain ⟨rfl, hz⟩ := hz
    replace hz := mx_rs_el hz; obtain ⟨k, b, hq, hz⟩ := hz
    cases hz
    exact lv_ldc2 hx hb hown (hts _ (hco.2.1 _ _ _ _ hq)) hd (kk H locs ⟨hP, hD, hho, har⟩ hS hso.l rfl)
  case invokespecial ix =>
    dsimp only at hz
    replace hz := mx_ifk hz; obtain ⟨⟨rfl, hF⟩, hz⟩ := hz
    replace hz := mx_rs_el hz; obtain ⟨a, b, hq, hz⟩ := hz
    replace hz := mx_ra_el hz; obtain ⟨o, r, rfl, hz⟩ := hz
    replace hz := mx_ifk hz; obtain ⟨hL, hz⟩ := hz
    cases hz
    obtain ⟨h1, h2, h3⟩ := hod.1 _ _ _ _ hq
    refine W.objInit hx hb hown (hts _ h1) (hts _ h2) (hts _ h3) rfl (hl.1.trans hml.symm) (a := rh o) (rest := mx_trS rh r) rfl hd hF ?_ (kk H locs ⟨hP, hD, hho, har⟩ hS hso.t rfl)
    show 2 * 0 + _ + 12 ≤ _
    rw [hsm]
    omega
  case invokestatic ix =>
    dsimp only at hz
    replace hz := mx_ifk hz; obtain ⟨⟨rfl, hF⟩, hz⟩ := hz
    replace hz := mx_sv_el hz; obtain ⟨⟨t, a0, b0⟩, hq, hz⟩ := hz
    dsimp only at hz
    by_cases ht6 : t = 6
    rotate_left
    · rw [if_neg ht6] at hz
      by_cases ht13 : t = 13
      · rw [if_pos ht13] at hz
        subst ht13
        replace hz := mx_i2_el hz; obtain ⟨x, y, r, rfl, hz⟩ := hz
        replace hz := mx_ifk hz; obtain ⟨hL, hz⟩ := hz
        cases hz
        obtain ⟨h1, h2, h3, h4⟩ := hod.2.2.1 _ _ _ _ hq
        exact va_mmax hx hb (hml.trans hl.1.symm) hown (hts _ h1) (hts _ h2) (hts _ h3) (hts _ h4) hF (by rw [hsm]; exact hL) hc1 hc2 hd (kk H locs ⟨hP, hD, hho, har⟩ hS hso.t.t.i rfl)
      · rw [if_neg ht13] at hz
        by_cases ht14 : t = 14
        · rw [if_pos ht14] at hz
          subst ht14
          replace hz := mx_i2_el hz; obtain ⟨x, y, r, rfl, hz⟩ := hz
          replace hz := mx_ifk hz; obtain ⟨hL, hz⟩ := hz
          cases hz
          obtain ⟨h1, h2, h3, h4⟩ := hod.2.2.2.1 _ _ _ _ hq
          exact va_mmin hx hb (hml.trans hl.1.symm) hown (hts _ h1) (hts _ h2) (hts _ h3) (hts _ h4) hF (by rw [hsm]; exact hL) hc1 hc2 hd (kk H locs ⟨hP, hD, hho, har⟩ hS hso.t.t.i rfl)
        · rw [if_neg ht14] at hz
          replace hz := mx_ifk hz; obtain ⟨rfl, hz⟩ := hz
          replace hz := mx_l2_el hz; obtain ⟨x, y, r, rfl, hz⟩ := hz
          replace hz := mx_ifk hz; obtain ⟨hL, hz⟩ := hz
          cases hz
          obtain ⟨h1, h2, h3, h4⟩ := hod.2.2.2.2 _ _ _ _ hq
          exact va_mmin_long hx hb (hml.trans hl.1.symm) hown (hts _ h1) (hts _ h2) (hts _ h3) (hts _ h4) hF (by rw [hsm]; exact hL) hc1 hc2 hd (kk H locs ⟨hP, hD, hho, har⟩ hS hso.t.t.l rfl)
    rw [if_pos ht6] at hz
    subst ht6
    replace hz := mx_i1_el hz; obtain ⟨n, r1, rfl, hz⟩ := hz
    replace hz := mx_ia_el hz; obtain ⟨dp, b, r2, rfl, hz⟩ := hz
    replace hz := mx_ia_el hz; obtain ⟨sp, a, r, rfl, hz⟩ := hz
    replace hz := mx_ai_el hz; obtain ⟨ty, n0, f, hoa, hz⟩ := hz
    replace hz := mx_ai_el hz; obtain ⟨ty2, n1, g, hob, hz⟩ := hz
    replace hz := mx_ifk hz; obtain ⟨⟨hck, hcf, hrk, rfl, hL⟩, hz⟩ := hz
    cases hz
    obtain ⟨h1, h2, h3, h4⟩ := hod.2.1 _ _ _ _ hq
    obtain ⟨⟨c1, c2, c3, c4, c5⟩, -⟩ := ox_cp (sp := sp) (dp := dp) (n := n) (n0 := n0) (n1 := n1) (x := some ()) (y := ()) (by rw [if_pos hck])
    obtain ⟨c6, -⟩ := ox_fit (ty := ty2) (f := f) (sp := sp) (n := n) (x := some ()) (y := ()) (by rw [if_pos hcf])
    have hK2 : va_K D cl [(ka a, ty2), (ka b, ty2)] s := (har.k hK hoa).app (har.k hK hob)
    refine va_copyi hx hb (hml.trans hl.1.symm) hown (hts _ h1) (hts _ h2) (hts _ h3) (hts _ h4) hK2 hP hD hS a b 0 1 (mx_ws_at hoa) (mx_ws_at hob) rfl rfl hrk c1 c2 c3 c4 c5 c6 hF (by rw [hsm]; exact hL) hd (fun H1 locs1 g1 g2 g3 => ?_)
    have e1 := mx_ws_set rh ka h b (.inl (ty2, n1, .inl (va_cpy f g sp.toNatClampNeg dp.toNatClampNeg n.toNatClampNeg)))
    exact kk H1 locs1 ⟨e1 ▸ g1, e1 ▸ g2, hho.set trivial, har.setA hob⟩ g3 (by rw [List.length_set]; exact hso.t.t.t.t.t) (by rw [List.length_set])
  case iaload =>
    dsimp only at hz
    replace hz := mx_ifk hz; obtain ⟨rfl, hz⟩ := hz
    replace hz := mx_ia_el hz; obtain ⟨j, a, r, rfl, hz⟩ := hz
    replace hz := mx_ifk hz; obtain ⟨⟨rfl, hj⟩, hz⟩ := hz
    cases hz
    obtain ⟨k1, k2, k3⟩ := hsc _ _ _ _ hZ
    exact va_sld hx hb k1 k2 k3 hS hj hd (kk H locs ⟨hP, hD, hho, har⟩ hS hso.t.t.i rfl)
  case arraylength =>
    dsimp only at hz
    replace hz := mx_ifk hz; obtain ⟨rfl, hz⟩ := hz
    replace hz := mx_ra_el hz; obtain ⟨a, r, rfl, hz⟩ := hz
    replace hz := mx_ifk hz; obtain ⟨rfl, hz⟩ := hz
    cases hz
    obtain ⟨k1, k2, k3⟩ := hsc _ _ _ _ hZ
    exact va_slen hx hb k1 k2 k3 hS hd (kk H locs ⟨hP, hD, hho, har⟩ hS hso.t.i rfl)
  all_goals (dsimp only at hz; cases hz)
theorem mx_eqE {x : va_E} {q : Nat} {w : va_W} {D : va_G} {cl : List vw_C} {H1 : Heap} (h : va_P D cl (w ++ [(q, x)]) H1) {y : va_E} (hxy : x = y) : va_P D cl (w ++ [(q, y)]) H1 := hxy ▸ h
set_option maxHeartbeats 4000000 in
theorem mx_new_ok (hx : p.tables.exec = Jvm.exec) (hb : c.code = cc) {G : mx_G} {cn : Nat → Option String} {big : List Cond} {Z : (Nat → Prop) → (Nat → Nat) → State → Heap → Prop} {y : MethodName} (hts : ∀ w ∈ big, w.before args s = true) (hown : s.vm.findClass y.cls = some m.cls) (hcl : mx_clOk cl big G cn) (hnw : mx_nwOk cl big G) (hna : mx_naOk big) (han : mx_anOk big G cn Z) (hcn : mx_cnOk big G Z)
    {len nL : Nat} {st : List Value} {h : mx_H} {lv : mx_L} {i : Jvm.ClassFile.Instr} {rh : Nat → Nat} {ka : Nat → ClassId} {z : List Value × mx_E × Nat} (hd : decode cc pc = .ok (i, len)) (hml : c.maxLocals = nL) (hl : lv_has ls nL (mx_trL rh lv)) (hK : va_K D cl [] s) (hZ : Z A rh s s.heap) (hR : mx_Rel D cl A rh ka h s H) (hS : va_S A H0 H locs) (hA : ∀ q, H0.size ≤ q → A q) (hso : mx_okS h.length st) (hn : h.length < 1000000000)
    (hz : mx_new G cn R.frames R.locals y st h i len = some z) (hc1 : cells + 1 ≤ R.cells) (hc2 : slots + z.2.2 ≤ R.slots) (kk : ∀ (H1 : Heap) (q : Nat) (cA : ClassId), mx_Rel D cl A (va_up rh h.length q) (va_up ka h.length cA) (h ++ [z.2.1]) s H1 → va_S A H0 H1 locs → mx_okS (h.length + 1) (.ref h.length :: z.1) → W p l e R s m args below meth c H1 locs (cells + 1) (slots + z.2.2) Q (F0 m (pc + len) ls (.ref q :: mx_trS rh z.1))) : W p l e R s m args below meth c H locs cells slots Q (F0 m pc ls (mx_trS rh st)) := by
  obtain ⟨hP, hD, hho, har⟩ := hR
  unfold mx_new at hz
  cases i
  case new ix =>
    dsimp only at hz
    replace hz := mx_ifk hz; obtain ⟨rfl, hz⟩ := hz
    replace hz := mx_rs_el hz; obtain ⟨ci, N, hq, hz⟩ := hz
    replace hz := mx_sv_el hz; obtain ⟨fs, hfs, hz⟩ := hz
    cases hz
    obtain ⟨C, T, hc, w1, w2, w3⟩ := hnw _ _ _ _ hq
    obtain ⟨hin, ⟨ty0, hty, hft⟩, -, -⟩ := hcl _ _ _ _ hc
    obtain ⟨e1, e2⟩ := mx_dfl_ok G ci N fs hfs
    have hnr : ∀ v ∈ fs, ∀ a, v ≠ .ref a := by
      intro v hv a hva
      obtain ⟨j, hj, hjv⟩ := List.getElem_of_mem hv
      obtain ⟨q, -, b2⟩ := e2 j (by omega)
      have h5 : fs[j]? = some v := by rw [List.getElem?_eq_getElem hj, hjv]
      rw [h5] at b2
      have b3 := Option.some.inj b2
      rw [hva] at b3
      cases hq1 : q.1 <;> rw [hq1] at b3 <;> cases b3
    have htr : ∀ r2 : Nat → Nat, mx_trS r2 fs = fs := fun r2 => by
      conv => rhs; rw [← List.map_id fs]
      refine List.map_congr_left (fun v hv => ?_)
      cases v with
      | ref a => exact absurd rfl (hnr _ hv a)
      | _ => rfl
    refine va_new (fs := fs) hx hb hts hin ty0 hty hown (hts _ w1) (hts _ w2) (hts _ w3) hK hP hD hS hA hc (fun j hj => ?_) hc1 hc2 hd (fun q H1 g1 g2 g3 => ?_)
    · obtain ⟨q, b1, b2⟩ := e2 j hj
      have b3 := hft j q b1 hj
      rw [vp_V, List.getD_eq_getElem?_getD, b2, b3]
      rfl
    · have e3 := mx_ws_push (rh := rh) (ka := ka) hho hn q 0 (.inr (ci, fs))
      have e4 : mx_trE (va_up rh h.length q) (va_up ka h.length 0) h.length (.inr (ci, fs)) = .inr (ci, fs) := by
        show (Sum.inr (ci, mx_trS _ fs) : va_E) = _
        rw [htr]
      rw [e4] at e3
      refine kk H1 q 0 ⟨e3 ▸ g1, e3 ▸ g2, hho.push ?_, har.push (fun ty y2 he => by cases he)⟩ g3 ((hso.mono (Nat.le_succ _)).c (Or.inl (Nat.lt_succ_self _)))
      intro v hv
      cases v with
      | ref a => exact absurd rfl (hnr _ hv a)
      | _ => exact trivial
  case newarray at1 =>
    dsimp only at hz
    replace hz := mx_ifk hz; obtain ⟨rfl, hz⟩ := hz
    replace hz := mx_i1_el hz; obtain ⟨n, r, rfl, hz⟩ := hz
    replace hz := mx_ifk hz; obtain ⟨⟨h1, h2, h3⟩, hz⟩ := hz
    cases hz
    have hw : (Cond.arrayClass (newarray.typeOf at1)).before args s = true := by
      rcases h3 with e1 | e1 | e1 <;> rw [e1]
      · exact hts _ hna.1
      · exact hts _ hna.2.1
      · exact hts _ hna.2.2
    refine va_newa (a0 := (n.toNatClampNeg, .inl (fun _ => 0))) hx hb hw rfl hK hP hD hS hA (fun cA => ?_) h1 rfl h2 hc1 hc2 hd (fun q cA H1 g0 g1 g2 g3 => ?_)
    · rcases h3 with e1 | e1 | e1 <;> rw [e1] <;> rfl
    · have e3 := mx_ws_push (rh := rh) (ka := ka) hho hn q cA (.inl (newarray.typeOf at1, n.toNatClampNeg, .inl (fun _ => 0)))
      have e4 : mx_trE (va_up rh h.length q) (va_up ka h.length cA) h.length (.inl (newarray.typeOf at1, n.toNatClampNeg, .inl (fun _ => 0))) = .inl (cA, n.toNatClampNeg, .inl (fun _ => 0)) := by
        show (Sum.inl (va_up ka h.length cA h.length, _) : va_E) = _
        rw [show va_up ka h.length cA h.length = cA by simp [va_up]]
        rfl
      rw [e4] at e3
      have g5 := g0.2 0 (cA, newarray.typeOf at1) rfl
      refine kk H1 q cA ⟨e3 ▸ g1, e3 ▸ g2, hho.push trivial, har.push (fun ty y2 he => ?_)⟩ g3 ((hso.t.mono (Nat.le_succ _)).c (Or.inl (Nat.lt_succ_self _)))
      cases he
      refine ⟨g5.1, g5.2, ?_⟩
      rcases h3 with e1 | e1 | e1 <;> rw [e1] <;> exact trivial
  case anewarray ix =>
    dsimp only at hz
    replace hz := mx_ifk hz; obtain ⟨rfl, hz⟩ := hz
    replace hz := mx_i1_el hz; obtain ⟨n, r, rfl, hz⟩ := hz
    replace hz := mx_ifk hz; obtain ⟨⟨h1, h2⟩, hz⟩ := hz
    replace hz := mx_sv_el hz; obtain ⟨⟨t, a, b⟩, hq, hz⟩ := hz
    dsimp only at hz
    by_cases ht : t = 10
    · rw [if_pos ht] at hz
      subst ht
      replace hz := mx_sv_el hz; obtain ⟨C, hC, hz⟩ := hz
      cases hz
      obtain ⟨w1, w2⟩ := han.1 _ _ _ _ C hq hC
      refine va_newq (C := C) hx hb hown (hts _ w1) (w2 _ _ _ _ hZ) hK hP hD hS hA h1 rfl h2 hc1 hc2 hd (fun q cA H1 g0 g1 g2 g3 => ?_)
      have e3 := mx_ws_push (rh := rh) (ka := ka) hho hn q cA (.inl (.object C, n.toNatClampNeg, .inr (.inr (.inr (.inr (fun _ => none))))))
      have e4 : mx_trE (va_up rh h.length q) (va_up ka h.length cA) h.length (.inl (.object C, n.toNatClampNeg, .inr (.inr (.inr (.inr (fun _ => none)))))) = .inl (cA, n.toNatClampNeg, .inr (.inr (.inr (.inr (fun _ => none))))) := by
        show (Sum.inl (va_up ka h.length cA h.length, _) : va_E) = _
        rw [show va_up ka h.length cA h.length = cA by simp [va_up]]
        rfl
      rw [e4] at e3
      have g5 := g0.2 0 (cA, .object C) rfl
      refine kk H1 q cA ⟨e3 ▸ g1, e3 ▸ g2, hho.push (fun j i hj => by cases hj), har.push (fun ty y2 he => ?_)⟩ g3 ((hso.t.mono (Nat.le_succ _)).c (Or.inl (Nat.lt_succ_self _)))
      cases he
      exact ⟨g5.1, g5.2, trivial⟩
    · rw [if_neg ht] at hz
      replace hz := mx_ifk hz; obtain ⟨rfl, hz⟩ := hz
      cases hz
      obtain ⟨w1, w2⟩ := han.2 _ _ _ _ hq
      refine W.anewA (t := .byte) hx hb hown (hts _ w1) (w2 _ _ _ _ hZ) rfl hd rfl h1 h2 hc1 hc2 fun cA kA comp f1 f2 f3 f4 => ?_
      generalize hH1 : H.push ({ cls := cA, slots := Array.replicate n.toNatClampNeg .null, vm := .none } : Cell) = H1
      have z1 : H1.size = H.size + 1 := by rw [← hH1, Array.size_push]
      have e1 : H1[H.size]? = some (arrV cA n.toNatClampNeg (fun _ => .null)) := by rw [← hH1, Array.getElem?_push_size, ← arrV_new]
      have o1 : ∀ q : Nat, q < H.size → H1[q]? = H[q]? := fun q hq => by rw [← hH1, Array.getElem?_push, if_neg (Nat.ne_of_lt hq)]
      have hk : ∀ (k : Nat) (x : Nat × va_E), (mx_ws rh ka h)[k]? = some x → H1[x.1]? = H[x.1]? := fun k x hx => o1 x.1 ((hP k x hx).lt)
      have e3 := mx_ws_push (rh := rh) (ka := ka) hho hn H.size cA (.inl (.array .byte, n.toNatClampNeg, .inr (.inr (.inr (.inr (fun _ => none))))))
      have e4 : mx_trE (va_up rh h.length H.size) (va_up ka h.length cA) h.length (.inl (.array .byte, n.toNatClampNeg, .inr (.inr (.inr (.inr (fun _ => none)))))) = .inl (cA, n.toNatClampNeg, .inr (.inr (.inr (.inr (fun _ => none))))) := by
        show (Sum.inl (va_up ka h.length cA h.length, _) : va_E) = _
        rw [show va_up ka h.length cA h.length = cA by simp [va_up]]
        rfl
      rw [e4] at e3
      have g1 : va_P D cl (mx_ws rh ka h ++ [(H.size, .inl (cA, n.toNatClampNeg, .inr (.inr (.inr (.inr (fun _ => none))))))]) H1 := (hP.kept hk).app (fun k x hx => by
        have hz : k < 1 := (List.getElem?_eq_some_iff.mp hx).1
        rw [show k = 0 by omega] at hx
        cases hx
        show H1[H.size]? = some (vp_cell _ _)
        rw [vp_cell_q]
        exact e1)
      have g2 : va_D A (mx_ws rh ka h ++ [(H.size, .inl (cA, n.toNatClampNeg, .inr (.inr (.inr (.inr (fun _ => none))))))]) := hD.push hP rfl (hA _ hS.1)
      have g3 : va_S A H0 H1 locs := ⟨Nat.le_trans hS.1 (by omega), fun x h1 h2 => (o1 x (Nat.lt_of_lt_of_le h1 hS.1)).trans (hS.2.1 x h1 h2), hS.2.2⟩
      have hAr : ArrOfT s cA (.array .byte) := fun N z => ⟨(fun k h => by cases h), kA, f2, comp, f3⟩
      refine kk H1 H.size cA ⟨e3 ▸ g1, e3 ▸ g2, hho.push (fun j i hj => by cases hj), har.push (fun ty y2 he => ?_)⟩ g3 ((hso.t.mono (Nat.le_succ _)).c (Or.inl (Nat.lt_succ_self _)))
      cases he
      exact ⟨hAr, f1, kA, comp, f2, f3, f4⟩
  case invokevirtual ix =>
    dsimp only at hz
    replace hz := mx_ifk hz; obtain ⟨rfl, hz⟩ := hz
    replace hz := mx_rs_el hz; obtain ⟨a0, b0, hq, hz⟩ := hz
    replace hz := mx_ra_el hz; obtain ⟨a, r, rfl, hz⟩ := hz
    replace hz := mx_ai_el hz; obtain ⟨ty, n, f, ho, hz⟩ := hz
    replace hz := mx_ifk hz; obtain ⟨⟨rfl, hft, hF, hL⟩, hz⟩ := hz
    cases hz
    obtain ⟨w0, w1, w2, w3, w4, w5⟩ := hcn.1 _ _ _ _ hq
    have hsm : ((mx_trS rh r).map fun v => v.category).sum = (r.map fun v => v.category).sum := by
      rw [List.map_map]
      congr 1
      exact List.map_congr_left (fun v _ => mx_tr_cat rh v)
    refine va_clone (ty := .byte) hx hb (hml.trans hl.1.symm) hown (hts _ w0) (hts _ w1) (hts _ w2) (hts _ w3) (hts _ w4) (w5 _ _ _ _ hZ) (har.k hK ho) hP hD hS hA a 0 (mx_ws_at ho) rfl (har a _ _ ho).2.1 (fun i v hv => ?_) hF (by rw [hsm]; exact hL) hc1 hc2 hd (fun q H1 g0 g1 g2 g3 => ?_)
    · have hv : (arrV (ka a) n (fun j => .int (f j))).slots[i]? = some v := hv
      have hlt : i < n := by
        have h9 := (Array.getElem?_eq_some_iff.mp hv).1
        rw [arrV_size] at h9
        exact h9
      rw [arrV_read _ _ hlt] at hv
      cases hv
      exact List.all_eq_true.mp hft i (List.mem_range.mpr hlt)
    · have e3 := mx_ws_push (rh := rh) (ka := ka) hho hn q (ka a) (.inl (.byte, n, .inl f))
      have e4 : mx_trE (va_up rh h.length q) (va_up ka h.length (ka a)) h.length (.inl (.byte, n, .inl f)) = .inl (ka a, n, .inl f) := by
        show (Sum.inl (va_up ka h.length (ka a) h.length, _) : va_E) = _
        rw [show va_up ka h.length (ka a) h.length = ka a by simp [va_up]]
        rfl
      rw [e4] at e3
      refine kk H1 q (ka a) ⟨e3 ▸ g1, e3 ▸ g2, hho.push trivial, har.push (fun ty y2 he => ?_)⟩ g3 ((hso.t.mono (Nat.le_succ _)).c (Or.inl (Nat.lt_succ_self _)))
      cases he
      exact har a _ _ ho
  all_goals (dsimp only at hz; cases hz)
end MXN
