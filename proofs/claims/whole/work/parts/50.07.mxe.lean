/-- what must hold of the methods, and of the places in the pools that call them -/
def mx_mtOk (big : List Cond) (G : mx_G) : Prop := ∀ (mu : Nat) (y : MethodName) (cc : ByteArray) (nL : Nat) (ret : Option FieldType), G.1 mu = some (y, cc, nL, ret) → mu ≠ 0 → plainName y.cls = true ∧ Cond.code y cc nL ret ∈ big ∧ y.cls ≠ "java/lang/invoke/MethodHandle" ∧ y.cls ≠ "java/lang/invoke/VarHandle"
def mx_ivOk (big : List Cond) (G : mx_G) (Z : (Nat → Prop) → (Nat → Nat) → State → Heap → Prop) : Prop := ∀ (own : String) (ix t nu n : Nat), G.2.1 own ix = some (t, nu, n) → ∀ (y : MethodName) (cc : ByteArray) (nL : Nat) (ret : Option FieldType), G.1 nu = some (y, cc, nL, ret) →
  (t = 1 → nu ≠ 0 ∧ Cond.methodLink own ix y ∈ big ∧ Cond.instanceMethod y ∈ big ∧ Cond.selects y.cls y y ∈ big ∧ Cond.initialized y.cls ∈ big ∧ (parseMethodDescriptor y.desc).map (fun d => d.parameters.length) = some n) ∧
  (t = 2 → nu ≠ 0 ∧ Cond.methodLink own ix y ∈ big ∧ Cond.static y ∈ big ∧ Cond.initialized y.cls ∈ big ∧ (parseMethodDescriptor y.desc).map (fun d => d.parameters.length) = some n) ∧
  (t = 3 → nu ≠ 0 ∧ Cond.methodLink own ix y ∈ big ∧ Cond.instanceMethod y ∈ big ∧ Cond.initialized y.cls ∈ big ∧ y.name = "<init>" ∧ ret = none ∧ (parseMethodDescriptor y.desc).map (fun d => d.parameters.length) = some n) ∧
  (t = 4 → nu ≠ 0 ∧ Cond.instanceMethod y ∈ big ∧ Cond.initialized y.cls ∈ big ∧ y.name = "<init>" ∧ ret = none ∧ (parseMethodDescriptor y.desc).map (fun d => d.parameters.length) = some n ∧ ∃ host, ∀ A rh U H, Z A rh U H → va_Nw (.methodLinkNest own ix y host) U)
/-- what is known of the world outside stays known -/
def mx_zOk (Z : (Nat → Prop) → (Nat → Nat) → State → Heap → Prop) : Prop :=
  (∀ A rh u U H, u.WarmedH U.vm → Z A rh u H → Z A rh U H) ∧ (∀ A rh u U H, u.vm = U.vm → Z A rh u H → Z A rh U H) ∧
  (∀ A rh U H H1, (∀ a : Nat, a < H.size → ¬ A a → H1[a]? = H[a]?) → Z A rh U H → Z A rh U H1) ∧ (∀ A B rh U H, (∀ q : Nat, B q → A q) → Z A rh U H → Z B rh U H) ∧
  ∀ A rh rh2 U H, (∀ i : Nat, 1000000000 ≤ i → rh2 i = rh i) → Z A rh U H → Z A rh2 U H
theorem mx_args_tr (rh : Nat → Nat) : ∀ (As : List Value) (k : Nat), lv_args k (mx_trS rh As) = mx_trL rh (lv_args k As) := by
  intro As
  induction As with
  | nil => intro k; rfl
  | cons v As ih =>
    intro k
    show (k, mx_tr rh v) :: lv_args (if (mx_tr rh v).category = 2 then k + 2 else k + 1) (mx_trS rh As) = (k, mx_tr rh v) :: mx_trL rh (lv_args (if v.category = 2 then k + 2 else k + 1) As)
    rw [mx_tr_cat, ih]
theorem mx_sl_len (rh : Nat → Nat) : ∀ (As : List Value), (lg_sl (mx_trS rh As)).length = (lg_sl As).length := by
  intro As
  induction As with
  | nil => rfl
  | cons v As ih =>
    have e1 : ∀ (w : Value) (bs : List Value), (lg_sl (w :: bs)).length = (if w.category = 2 then 2 else 1) + (lg_sl bs).length := by
      intro w bs
      unfold lg_sl
      rw [List.flatMap_cons, List.length_append]
      by_cases hw : w.category = 2
      · rw [if_pos hw, if_pos hw]; rfl
      · rw [if_neg hw, if_neg hw]; rfl
    show (lg_sl (mx_tr rh v :: mx_trS rh As)).length = _
    rw [e1, e1, mx_tr_cat, ih]
theorem mx_args_ok {n : Nat} : ∀ (As : List Value) (k : Nat), mx_okS n As → mx_okL n (lv_args k As) := by
  intro As
  induction As with
  | nil => intro k _ q hq; cases hq
  | cons v As ih =>
    intro k h q hq
    rcases List.mem_cons.mp hq with e1 | e1
    · rw [e1]; exact h.hd
    · exact ih _ h.t q e1
theorem mx_take {st : List Value} {n : Nat} (h : n ≤ st.length) : st = ((st.take n).reverse).reverse ++ st.drop n ∧ (st.take n).reverse.length = n := by
  refine ⟨by rw [List.reverse_reverse, List.take_append_drop], ?_⟩
  rw [List.length_reverse, List.length_take]
  omega
theorem mx_call_el {G : mx_G} {y : MethodName} {st : List Value} {i : Jvm.ClassFile.Instr} {len kd nu : Nat} {As rest : List Value} (h : mx_call G y st i len = some (kd, nu, As, rest)) :
    (∃ ix b A2, i = .invokevirtual ix ∧ len = 3 ∧ kd = 1 ∧ G.2.1 y.cls ix = some (1, nu, A2.length) ∧ As = .ref b :: A2 ∧ st = A2.reverse ++ .ref b :: rest) ∨
    (∃ ix, i = .invokestatic ix ∧ len = 3 ∧ kd = 2 ∧ G.2.1 y.cls ix = some (2, nu, As.length) ∧ st = As.reverse ++ rest) ∨
    ∃ ix b A2, i = .invokespecial ix ∧ len = 3 ∧ (kd = 3 ∨ kd = 4) ∧ G.2.1 y.cls ix = some (kd, nu, A2.length) ∧ As = .ref b :: A2 ∧ st = A2.reverse ++ .ref b :: rest := by
  unfold mx_call at h
  cases i
  case invokevirtual ix =>
    dsimp only at h
    obtain ⟨h1, h⟩ := mx_ifk h
    obtain ⟨x, n, h2, h⟩ := mx_rs_el h
    obtain ⟨b, r, h3, h⟩ := mx_ra_el h
    obtain ⟨h4, h⟩ := mx_ifk h
    cases h
    obtain ⟨e1, e2⟩ := mx_take h4
    exact Or.inl ⟨ix, b, _, rfl, h1, rfl, by rw [e2]; exact h2, rfl, by rw [← h3]; exact e1⟩
  case invokestatic ix =>
    dsimp only at h
    obtain ⟨h1, h⟩ := mx_ifk h
    obtain ⟨x, n, h2, h⟩ := mx_rs_el h
    obtain ⟨h4, h⟩ := mx_ifk h
    cases h
    obtain ⟨e1, e2⟩ := mx_take h4
    exact Or.inr (Or.inl ⟨ix, rfl, h1, rfl, by rw [e2]; exact h2, e1⟩)
  case invokespecial ix =>
    dsimp only at h
    obtain ⟨h1, h⟩ := mx_ifk h
    obtain ⟨⟨t, x, n⟩, h2, h⟩ := mx_sv_el h
    obtain ⟨b, r, h3, h⟩ := mx_ra_el h
    obtain ⟨⟨h4, h5⟩, h⟩ := mx_ifk h
    cases h
    obtain ⟨e1, e2⟩ := mx_take h4
    exact Or.inr (Or.inr ⟨ix, b, _, rfl, h1, h5, by rw [e2]; exact h2, rfl, by rw [← h3]; exact e1⟩)
  all_goals (dsimp only at h; cases h)
/-- what a method gives back: a way from places to addresses that goes on the old one, the cells -/
def mx_Post (D : va_G) (cl : List vw_C) (A : Nat → Prop) (rh0 : Nat → Nat) (n0 : Nat) (h2 : mx_H) (v : Option Value) : Array Value → State → Outcome → State → Prop := fun _ st oc t =>
  (∃ (rh2 : Nat → Nat) (ka2 : Nat → ClassId), mx_agr n0 rh0 rh2 ∧ oc = .returned (v.map (mx_tr rh2)) ∧ mx_Rel D cl A rh2 ka2 h2 t t.heap ∧ n0 ≤ h2.length ∧ ∀ w, v = some w → mx_okV h2.length w) ∧ va_F A st t
def mx_Pre (D : va_G) (cl : List vw_C) (Z : (Nat → Prop) → (Nat → Nat) → State → Heap → Prop) (rh : Nat → Nat) (ka : Nat → ClassId) (h : mx_H) (sz : Nat) (As : List Value) : Array Value → State → Prop := va_Pc (mx_trS rh As) (fun U => U.heap.size = sz ∧ mx_Rel D cl (va_A (mx_ws rh ka h) sz) rh ka h U U.heap ∧ va_K D cl [] U ∧ Z (va_A (mx_ws rh ka h) sz) rh U U.heap)
def mx_Env (D : va_G) (cl : List vw_C) (big : List Cond) (y : MethodName) (cc : ByteArray) (nL : Nat) (ret : Option FieldType) (p : Program) (s : State) (m : MethodId) (args : Array Value) (meth : Method) (c : Code) (A : Nat → Prop) : Prop := p.tables.exec = Jvm.exec ∧ c.code = cc ∧ c.maxLocals = nL ∧ meth.sig.returnType = ret ∧ meth.locks = false ∧ (y.name = "<init>" → meth.name = y.name) ∧ s.vm.findClass y.cls = some m.cls ∧ (∀ w ∈ big, w.before args s = true) ∧ va_K D cl [] s ∧ ∀ q : Nat, s.heap.size ≤ q → A q
def mx_Cur (D : va_G) (cl : List vw_C) (Z : (Nat → Prop) → (Nat → Nat) → State → Heap → Prop) (A : Nat → Prop) (rh0 : Nat → Nat) (n0 : Nat) (s : State) (rh : Nat → Nat) (ka : Nat → ClassId) (h : mx_H) (lv : mx_L) (st : List Value) (H : Heap) (locs : List Loc) (ls : Array Slot) (nL : Nat) : Prop := n0 ≤ h.length ∧ mx_agr n0 rh0 rh ∧ Z A rh s s.heap ∧ va_S A s.heap H locs ∧ mx_Rel D cl A rh ka h s H ∧ lv_has ls nL (mx_trL rh lv) ∧ mx_okL h.length lv ∧ mx_okS h.length st
/-- what a run of the little machine says of the machine -/
def mx_body (l : Launch) (D : va_G) (cl : List vw_C) (big : List Cond) (G : mx_G) (cn : Nat → Option String) (Z : (Nat → Prop) → (Nat → Nat) → State → Heap → Prop) (n : Nat) : Prop := ∀ (F L mu pc : Nat) (lv : mx_L) (st : List Value) (h : mx_H) (cells slots : Nat) (v : Option Value) (h2 : mx_H) (mc ms : Nat), mx_go G cn n F L mu pc lv st h cells slots = some (v, h2, mc, ms) → (cells ≤ mc ∧ slots ≤ ms) ∧
  ∀ (y : MethodName) (cc : ByteArray) (nL : Nat) (ret : Option FieldType) (p : Program) (e : Env) (R : Room) (s : State) (m : MethodId) (args : Array Value) (below : List Frame) (meth : Method) (c : Code) (A : Nat → Prop) (rh0 : Nat → Nat) (n0 : Nat) (rh : Nat → Nat) (ka : Nat → ClassId) (H : Heap) (locs : List Loc) (ls : Array Slot), R.frames = F ∧ R.locals = L ∧ mc ≤ R.cells ∧ ms ≤ R.slots → G.1 mu = some (y, cc, nL, ret) → mx_Env D cl big y cc nL ret p s m args meth c A → mx_Cur D cl Z A rh0 n0 s rh ka h lv st H locs ls nL →
    W p l e R s m args below meth c H locs cells slots (MQ below (mx_Post D cl A rh0 n0 h2 v) args s mc ms A) (F0 m pc ls (mx_trS rh st))
theorem mx_met {l : Launch} {D : va_G} {cl : List vw_C} {big : List Cond} {G : mx_G} {cn : Nat → Option String} {Z : (Nat → Prop) → (Nat → Nat) → State → Heap → Prop} {n : Nat} (hbody : mx_body l D cl big G cn Z n) {F L mu : Nat} {As : List Value} {h : mx_H} {v : Option Value} {h2 : mx_H} {mc ms : Nat} (hgo : mx_go G cn n F L mu 0 (lv_args 0 As) [] h 0 0 = some (v, h2, mc, ms)) {y : MethodName} {cc : ByteArray} {nL : Nat} {ret : Option FieldType} (hmu : G.1 mu = some (y, cc, nL, ret)) (hpl : plainName y.cls = true) (hlen : (lg_sl As).length ≤ nL) (hos : mx_okS h.length As) (rh : Nat → Nat) (ka : Nat → ClassId) (sz : Nat) :
    Met l y (Cond.code y cc nL ret :: big) { frames := F, cells := mc, slots := ms, locals := L } (mx_Pre D cl Z rh ka h sz As) (mx_Post D cl (va_A (mx_ws rh ka h) sz) rh h.length h2 v) mc ms (va_A (mx_ws rh ka h) sz) := by
  refine Met.ofW (cc := cc) (maxL := nL) (ret := ret) hpl rfl ?_
  intro p e s m args below meth c s₁ B hml hv
  obtain ⟨rfl, hsz, hR, hK, hZ⟩ := hv
  subst hsz
  have hts := atoms_spec (ws := Cond.code y cc nL ret :: big) B.pre
  have hl := lv_entry (mx_trS rh As) (n := nL) (by rw [mx_sl_len]; exact hlen)
  rw [lg_entry_eq]
  generalize (lg_sl (mx_trS rh As) ++ List.replicate (nL - (lg_sl (mx_trS rh As)).length) Slot.unset).toArray = ls at hl ⊢
  rw [mx_args_tr] at hl
  exact (hbody F L mu 0 (lv_args 0 As) [] h 0 0 v h2 mc ms hgo).2 y cc nL ret p e _ s m _ below meth c _ rh h.length rh ka s.heap [] ls ⟨rfl, rfl, Nat.le_refl _, Nat.le_refl _⟩ hmu
    ⟨B.exec, B.bytes, hml, B.returns, B.notSynchronized, fun _ => (name_of_methodNamed B.named B.method).1, findClass_of_methodNamed B.named, fun w hw => hts w (List.mem_cons_of_mem _ hw), hK, fun q hq => Or.inr hq⟩
    ⟨Nat.le_refl _, mx_agr.rf _ _, hZ, va_S.rf, hR, hl, mx_args_ok As 0 hos, fun w hw => by cases hw⟩
section MXC
variable {p : Program} {l : Launch} {e : Env} {R : Room} {s : State} {m : MethodId} {args : Array Value} {below : List Frame} {meth : Method} {c : Code} {H : Heap} {locs : List Loc} {cells slots : Nat} {Q : State → Prop}
theorem mx_callk {Qa : State → Outcome → State → Prop} {mc ms pc : Nat} {ls : Array Slot} {st0 rest : List Value} {free : Addr → Prop} {A0 : Nat → Prop} (hr : va_Run p l e R s m args below meth c H locs cells slots mc ms (F0 m pc ls st0) rest Qa free) (hS : ∀ q ∈ locs, A0 q.base) (hf : ∀ q, free q → A0 q)
    (kk : ∀ (v : Option Value) (u t : State) (H1 : Heap) (locs1 : List Loc), u.heap = H → t.heap = H1 → s.vm.Alike t.vm → Qa u (.returned v) t → (∀ q ∈ locs1, A0 q.base) → W p l e R s m args below meth c H1 locs1 (cells + mc) (slots + ms) Q (F0 m (pc + 3) ls (v.toList ++ rest))) : W p l e R s m args below meth c H locs cells slots Q (F0 m pc ls st0) := by
  intro T hT X
  obtain ⟨v, u, t, T', L, h0, X', hL, e1, e2, hq, st⟩ := hr T hT X
  obtain ⟨t2, a1, b1⟩ := kk v u t T'.heap (locs ++ L) h0 e1.symm (by rw [← e2]; exact X'.warmed.alike) hq (fun q hq2 => by
    rcases List.mem_append.mp hq2 with h | h
    · exact hS q h
    · exact hf _ (hL q h)) T' rfl X'
  exact ⟨t2, st t2 a1, b1⟩
end MXC
theorem mx_isRef {ty : FieldType} (h : ty.isReference = true) : (∃ n, ty = .object n) ∨ ∃ t, ty = .array t := by
  cases ty with
  | object n => exact Or.inl ⟨n, rfl⟩
  | array t => exact Or.inr ⟨t, rfl⟩
  | _ => cases h
/-- the texts are there, and what String.charAt and String.length need -/
def mx_stOk (l : Launch) (D : va_G) (big : List Cond) (G : mx_G) (Z : (Nat → Prop) → (Nat → Nat) → State → Heap → Prop) : Prop := (∀ (a tn : Nat) (ft : Nat → Int32), G.2.2.2.2 a = some (tn, ft) → ∀ A rh U H, Z A rh U H → ∃ av, pz_W tn ft (rh a) av A U H) ∧ (∀ w ∈ wsJ0_charAt_5068e, w ∈ big) ∧ (∀ w ∈ wsJ0_length_8abf5, w ∈ big) ∧
  (∀ (own : String) (ix a b : Nat), G.2.1 own ix = some (16, a, b) → ∀ w ∈ ([.methodLink own ix yJ0_charAt_5068e, .instanceMethod yJ0_charAt_5068e, .selects RJ0 yJ0_charAt_5068e yJ0_charAt_5068e, .initialized RJ0] : List Cond), w ∈ big) ∧
  ∀ (own : String) (ix a b : Nat), G.2.1 own ix = some (17, a, b) → ∀ w ∈ ([.methodLink own ix yJ0_length_8abf5, .instanceMethod yJ0_length_8abf5, .selects RJ0 yJ0_length_8abf5 yJ0_length_8abf5, .initialized RJ0] : List Cond), w ∈ big
section MXT
variable {p : Program} {l : Launch} {e : Env} {R : Room} {s : State} {m : MethodId} {args : Array Value} {below : List Frame} {meth : Method} {c : Code} {H : Heap} {locs : List Loc} {cells slots : Nat} {Q : State → Prop}
variable {cc : ByteArray} {pc : Nat} {ls : Array Slot} {rest : List Value} {D : va_G} {A : Nat → Prop}
set_option maxHeartbeats 4000000 in
theorem mx_str_ok {G : mx_G} {big : List Cond} {Z : (Nat → Prop) → (Nat → Nat) → State → Heap → Prop} {y : MethodName} (hgd : GoodIn big big) (hzo : mx_zOk Z) (hx : p.tables.exec = Jvm.exec) (hb : c.code = cc) (hts : ∀ w ∈ big, w.before args s = true) (hown : s.vm.findClass y.cls = some m.cls) (hst : mx_stOk l D big G Z)
    {len nL : Nat} {st : List Value} {h : mx_H} {lv : mx_L} {i : Jvm.ClassFile.Instr} {rh : Nat → Nat} {ka : Nat → ClassId} {z : List Value} (hd : decode cc pc = .ok (i, len)) (hml : c.maxLocals = nL) (hl : lv_has ls nL (mx_trL rh lv)) (hK : va_K D vwCl [] s) (hZ : Z A rh s s.heap) (hR : mx_Rel D vwCl A rh ka h s H) (hS : va_S A s.heap H locs) (hA : ∀ q : Nat, s.heap.size ≤ q → A q) (hso : mx_okS h.length st)
    (hc1 : cells ≤ R.cells) (hc2 : slots ≤ R.slots) (hz : mx_str G R.frames R.locals y st i len = some z) (kk : ∀ (H1 : Heap) (locs1 : List Loc), mx_Rel D vwCl A rh ka h s H1 → va_S A s.heap H1 locs1 → mx_okS h.length z → W p l e R s m args below meth c H1 locs1 cells slots Q (F0 m (pc + len) ls (mx_trS rh z))) : W p l e R s m args below meth c H locs cells slots Q (F0 m pc ls (mx_trS rh st)) := by
  obtain ⟨hP, hD, hho, har⟩ := hR
  obtain ⟨dC, dI⟩ := D
  have hsm : ∀ r : List Value, ((mx_trS rh r).map fun v => v.category).sum = (r.map fun v => v.category).sum := by
    intro r
    rw [List.map_map]
    congr 1
    exact List.map_congr_left (fun v _ => mx_tr_cat rh v)
  have hgood : ∀ ws1 ws2 : List Cond, (∀ w ∈ ws1, w ∈ big) → (∀ w ∈ ws2, w ∈ big) → GoodIn big (ws1 ++ ws2) := by
    intro ws1 ws2 h1 h2 w hw
    rcases List.mem_append.mp hw with q | q
    · exact hgd w (h1 w q)
    · exact hgd w (h2 w q)
  have hFc : ∀ q : Nat, va_A ([] : va_W) H.size q → A q := fun q hq => by
    rcases hq with ⟨k, e1, hq⟩ | hq
    · cases hq
    · exact hA q (Nat.le_trans hS.1 hq)
  have hPc : va_P (dC, dI) vwCl [] H := fun k q hq => by cases hq
  have hDc : va_D A ([] : va_W) := ⟨fun i j x y hx => (by cases hx), fun k q hq => (by cases hq)⟩
  have hend : ∀ (H1 : Heap) (t : State), t.heap = H1 → (∀ q : Nat, q < H.size → ¬ va_A ([] : va_W) H.size q → H1[q]? = H[q]?) → mx_Rel (dC, dI) vwCl A rh ka h s H1 := by
    intro H1 t ht hk1
    refine ⟨hP.kept (fun k q hq => hk1 q.1 (hP k q hq).lt (fun hq2 => ?_)), hD, hho, har⟩
    rcases hq2 with ⟨k2, e1, hq2⟩ | hq2
    · cases hq2
    · exact absurd (hP k q hq).lt (Nat.not_lt.mpr hq2)
  unfold mx_str at hz
  cases i
  case invokevirtual ix =>
    dsimp only at hz
    replace hz := mx_ifk hz; obtain ⟨rfl, hz⟩ := hz
    replace hz := mx_sv_el hz; obtain ⟨⟨t, a0, b0⟩, hq, hz⟩ := hz
    dsimp only at hz
    by_cases ht : t = 16
    · rw [if_pos ht] at hz
      subst ht
      replace hz := mx_ia_el hz; obtain ⟨j, a, r, rfl, hz⟩ := hz
      replace hz := mx_sv_el hz; obtain ⟨⟨tn, ft⟩, hstr, hz⟩ := hz
      replace hz := mx_ifk hz; obtain ⟨⟨hj, htn, hF, hL, hsu⟩, hz⟩ := hz
      cases hz
      obtain ⟨jn, hjn, rfl⟩ := nI_of (fun q => hj (Or.inl q) : ¬ j < 0)
      have hcl : (nI jn).toNatClampNeg = jn := nI_clamp hjn
      rw [hcl] at hj
      have hjt : jn < tn := Nat.not_le.mp fun q => hj (Or.inr q)
      obtain ⟨av, hZW⟩ := hst.1 _ _ _ hstr _ _ _ _ hZ
      refine va_calli (va_runV (Ts := big) (own := y.cls) (C := RJ0) (b := rh a) (As := [.int (nI jn)]) (rest := mx_trS rh r) ⟨hx, hb, hml, hown, hts⟩ (ct_charAt l dC dI H.size tn ft (rh a) av jn hjt htn) (cwV 1 hts (hgood _ _ (hst.2.2.2.1 _ _ _ _ hq) hst.2.1) rfl rfl rfl (by decide +kernel) ⟨by show 3 + 1 ≤ _; omega, by show 8 + (2 + 11) + 64 ≤ _; omega⟩) ⟨fun a U g mk q => by obtain ⟨q0, q1, qP, qK, qD, qhZW⟩ := q; exact ⟨q0, q1, qP, va_K.moved (u := U) (U := U.calling g mk a) (Vm.Alike.refl U.vm) qK, qD, pz_W.moved (u := U) (U := U.calling g mk a) (Vm.Alike.refl U.vm) qhZW⟩, pz_recv hZW hS, fun U hU hW => ⟨rfl, by rw [hU], by rw [hU]; exact hPc, va_K.moved hW.alike hK, hDc.weaken (fun _ _ _ _ => trivial), by rw [hU]; exact ((pz_W.moved hW.alike hZW).kept hS.2.1).narrow hFc⟩⟩ rfl rfl hl.1 rfl (lv_room (by rw [hsm]; exact hsu)) hd ⟨by omega, by omega⟩) hS (fun q _ h => hFc q h) hFc ?_
      intro r1 u t H1 locs1 ht hvm hw hB hz1 hk1 hS1
      obtain ⟨⟩ := u
      try dsimp only at hw
      subst hw
      have := kk H1 locs1 (hend H1 t ht hk1) hS1 hso.t.t.i
      rw [hcl] at this
      exact this
    · rw [if_neg ht] at hz
      replace hz := mx_ifk hz; obtain ⟨rfl, hz⟩ := hz
      replace hz := mx_ra_el hz; obtain ⟨a, r, rfl, hz⟩ := hz
      replace hz := mx_sv_el hz; obtain ⟨⟨tn, ft⟩, hstr, hz⟩ := hz
      replace hz := mx_ifk hz; obtain ⟨⟨hF, hL, hsu⟩, hz⟩ := hz
      cases hz
      obtain ⟨av, hZW⟩ := hst.1 _ _ _ hstr _ _ _ _ hZ
      refine va_calli (va_runV (Ts := big) (own := y.cls) (C := RJ0) (b := rh a) (As := []) (rest := mx_trS rh r) ⟨hx, hb, hml, hown, hts⟩ (ct_slen l dC dI H.size tn ft (rh a) av) (cwV 0 hts (hgood _ _ (hst.2.2.2.2 _ _ _ _ hq) hst.2.2.1) rfl rfl rfl (by decide +kernel) ⟨by show 1 + 1 ≤ _; omega, by show 8 + (1 + 11) + 20 ≤ _; omega⟩) ⟨fun a U g mk q => by obtain ⟨q0, q1, qP, qK, qD, qhZW⟩ := q; exact ⟨q0, q1, qP, va_K.moved (u := U) (U := U.calling g mk a) (Vm.Alike.refl U.vm) qK, qD, pz_W.moved (u := U) (U := U.calling g mk a) (Vm.Alike.refl U.vm) qhZW⟩, pz_recv hZW hS, fun U hU hW => ⟨rfl, by rw [hU], by rw [hU]; exact hPc, va_K.moved hW.alike hK, hDc.weaken (fun _ _ _ _ => trivial), by rw [hU]; exact ((pz_W.moved hW.alike hZW).kept hS.2.1).narrow hFc⟩⟩ rfl rfl hl.1 rfl (lv_room (by rw [hsm]; exact hsu)) hd ⟨by omega, by omega⟩) hS (fun q _ h => hFc q h) hFc ?_
      intro r1 u t H1 locs1 ht hvm hw hB hz1 hk1 hS1
      obtain ⟨⟩ := u
      try dsimp only at hw
      subst hw
      exact kk H1 locs1 (hend H1 t ht hk1) hS1 hso.t.i
  all_goals (dsimp only at hz; cases hz)
end MXT
set_option maxHeartbeats 8000000 in
theorem mx_main {l : Launch} {D : va_G} {big : List Cond} {G : mx_G} {cn : Nat → Option String} {Z : (Nat → Prop) → (Nat → Nat) → State → Heap → Prop} (hgd : GoodIn big big) (hcl : mx_clOk vwCl big G cn) (hfd : mx_fdOk vwCl big G) (hnw : mx_nwOk vwCl big G) (hna : mx_naOk big) (han : mx_anOk big G cn Z) (hcn : mx_cnOk big G Z) (hco : mx_coOk big G Z) (hod : mx_odOk big G) (hsc : mx_scOk G Z) (hst : mx_stOk l D big G Z) (hmt : mx_mtOk big G) (hiv : mx_ivOk big G Z) (hzo : mx_zOk Z) : ∀ n, mx_body l D vwCl big G cn Z n := by
  intro n
  induction n with
  | zero =>
    intro F L mu pc lv st h cells slots v h2 mc ms hgo
    cases hgo
  | succ n ih =>
    intro F L mu pc lv st h cells slots v h2 mc ms hgo
    unfold mx_go at hgo
    obtain ⟨⟨y, cc, nL, ret⟩, hmu, hgo⟩ := mx_sv_el hgo
    obtain ⟨i, len, hd, hgo⟩ := mx_dc_el hgo
    dsimp only at hgo hd
    cases hp1 : mx_pure nL pc lv st i len with
    | some z =>
      rw [hp1] at hgo
      dsimp only at hgo
      obtain ⟨hm, hW⟩ := ih _ _ _ _ _ _ _ _ _ _ _ _ _ hgo
      refine ⟨hm, ?_⟩
      intro y1 cc1 nL1 ret1 p e R s m args below meth c A rh0 n0 rh ka H locs ls hRR hmu1 hE hC
      obtain ⟨hR1, hR2, hR3, hR4⟩ := hRR
      cases hmu.symm.trans hmu1
      obtain ⟨c1, c2, c3, c4, c5, c6, c7, c8⟩ := hC
      exact mx_pure_ok hE.1 hE.2.1 hd c6 c7 c8 hp1 (fun ls2 g1 g2 g3 => hW y cc nL ret p e R s m args below meth c A rh0 n0 rh ka H locs ls2 ⟨hR1, hR2, hR3, hR4⟩ hmu hE ⟨c1, c2, c3, c4, c5, g1, g2, g3⟩)
    | none =>
      rw [hp1] at hgo
      dsimp only at hgo
      cases hp2 : mx_heap G cn y st h i len with
      | some z =>
        rw [hp2] at hgo
        dsimp only at hgo
        obtain ⟨hm, hW⟩ := ih _ _ _ _ _ _ _ _ _ _ _ _ _ hgo
        refine ⟨hm, ?_⟩
        intro y1 cc1 nL1 ret1 p e R s m args below meth c A rh0 n0 rh ka H locs ls hRR hmu1 hE hC
        obtain ⟨hR1, hR2, hR3, hR4⟩ := hRR
        cases hmu.symm.trans hmu1
        obtain ⟨c1, c2, c3, c4, c5, c6, c7, c8⟩ := hC
        obtain ⟨x1, x2, x3, x4, x5, x6, x7, x8, x9, x10⟩ := hE
        exact mx_heap_ok x1 x2 x8 x7 x6 hcl hfd hd x9 c5 c4 c8 hp2 (fun H1 locs1 g1 g2 g3 g4 => hW y cc nL ret p e R s m args below meth c A rh0 n0 rh ka H1 locs1 ls ⟨hR1, hR2, hR3, hR4⟩ hmu ⟨x1, x2, x3, x4, x5, x6, x7, x8, x9, x10⟩ ⟨by rw [g4]; exact c1, c2, c3, g2, g1, c6, by rw [g4]; exact c7, g3⟩)
      | none =>
        rw [hp2] at hgo
        dsimp only at hgo
        cases hp3 : mx_ret ret st i len with
        | some w =>
          rw [hp3] at hgo
          cases hgo
          refine ⟨⟨Nat.le_refl _, Nat.le_refl _⟩, ?_⟩
          intro y1 cc1 nL1 ret1 p e R s m args below meth c A rh0 n0 rh ka H locs ls hRR hmu1 hE hC
          obtain ⟨hR1, hR2, hR3, hR4⟩ := hRR
          cases hmu.symm.trans hmu1
          obtain ⟨c1, c2, c3, c4, ⟨hP, hD, hho, har⟩, c6, c7, c8⟩ := hC
          obtain ⟨x1, x2, x3, x4, x5, x6, x7, x8, x9, x10⟩ := hE
          have hpost : ∀ (u : Option Value) (t : State), (∀ w, u = some w → mx_okV h.length w) → t.heap = H → s.WarmedH t.vm → mx_Post D vwCl A rh0 n0 h u args s (.returned (u.map (mx_tr rh))) t := by
            intro u t hu ht hW
            subst ht
            exact ⟨⟨rh, ka, c2, rfl, ⟨hP, hD, hho, har.moved hW.alike⟩, c1, hu⟩, c4.F rfl⟩
          unfold mx_ret at hp3
          cases i
          case ireturn =>
            dsimp only at hp3
            replace hp3 := mx_ifk hp3; obtain ⟨rfl, hp3⟩ := hp3
            replace hp3 := mx_i1_el hp3; obtain ⟨x, r, rfl, hp3⟩ := hp3
            replace hp3 := mx_ifk hp3; obtain ⟨rfl, hp3⟩ := hp3
            replace hp3 := mx_sv_el hp3; obtain ⟨ty, rfl, hp3⟩ := hp3
            replace hp3 := mx_ifk hp3; obtain ⟨hn, hp3⟩ := hp3
            cases hp3
            exact W.zret x1 x2 x4 hn (fun t ht hW => hpost (some (.int x)) t (fun w hw => by cases hw; exact trivial) ht hW) c4.2.2 hd x5
          case lreturn =>
            dsimp only at hp3
            replace hp3 := mx_ifk hp3; obtain ⟨rfl, hp3⟩ := hp3
            replace hp3 := mx_l1_el hp3; obtain ⟨x, r, rfl, hp3⟩ := hp3
            replace hp3 := mx_ifk hp3; obtain ⟨⟨rfl, rfl⟩, hp3⟩ := hp3
            cases hp3
            exact W.lret x1 x2 x4 (fun t ht hW => hpost (some (.long x)) t (fun w hw => by cases hw; exact trivial) ht hW) c4.2.2 hd x5
          case areturn =>
            dsimp only at hp3
            replace hp3 := mx_ifk hp3; obtain ⟨rfl, hp3⟩ := hp3
            replace hp3 := mx_r1_el hp3; obtain ⟨x, r, rfl, hp3⟩ := hp3
            replace hp3 := mx_ifk hp3; obtain ⟨rfl, hp3⟩ := hp3
            replace hp3 := mx_sv_el hp3; obtain ⟨ty, rfl, hp3⟩ := hp3
            replace hp3 := mx_ifk hp3; obtain ⟨hn, hp3⟩ := hp3
            cases hp3
            have hvv : mx_tr rh (va_rf x) = .null ∨ ∃ a, mx_tr rh (va_rf x) = .ref a := by
              cases x with
              | none => exact Or.inl rfl
              | some a => exact Or.inr ⟨_, rfl⟩
            exact W.aret (v := mx_tr rh (va_rf x)) x1 x2 x4 (mx_isRef hn) hvv (fun t ht hW => hpost (some (va_rf x)) t (fun w hw => by cases hw; exact c8.hd) ht hW) c4.2.2 hd x5
          case return_ =>
            dsimp only at hp3
            replace hp3 := mx_ifk hp3; obtain ⟨⟨rfl, rfl, rfl⟩, hp3⟩ := hp3
            cases hp3
            exact W.vret x1 x2 x4 (fun t ht hW => hpost none t (fun w hw => by cases hw) ht hW) c4.2.2 hd x5
          all_goals (dsimp only at hp3; cases hp3)
        | none =>
          rw [hp3] at hgo
          dsimp only at hgo
          cases hp4 : mx_odd G F L y st h i len with
          | some z =>
            rw [hp4] at hgo
            dsimp only at hgo
            obtain ⟨hm, hW⟩ := ih _ _ _ _ _ _ _ _ _ _ _ _ _ hgo
            refine ⟨hm, ?_⟩
            intro y1 cc1 nL1 ret1 p e R s m args below meth c A rh0 n0 rh ka H locs ls hRR hmu1 hE hC
            obtain ⟨hR1, hR2, hR3, hR4⟩ := hRR
            cases hmu.symm.trans hmu1
            obtain ⟨c1, c2, c3, c4, c5, c6, c7, c8⟩ := hC
            obtain ⟨x1, x2, x3, x4, x5, x6, x7, x8, x9, x10⟩ := hE
            exact mx_odd_ok (Z := Z) (R := R) x1 x2 x8 x7 hco hod hsc hcn hd x3 c6 x9 c3 c5 c4 c8 (Nat.le_trans hm.1 hR3) (Nat.le_trans hm.2 hR4) (by rw [hR1, hR2]; exact hp4) (fun H1 locs1 g1 g2 g3 g4 => hW y cc nL ret p e R s m args below meth c A rh0 n0 rh ka H1 locs1 ls ⟨hR1, hR2, hR3, hR4⟩ hmu ⟨x1, x2, x3, x4, x5, x6, x7, x8, x9, x10⟩ ⟨by rw [g4]; exact c1, c2, c3, g2, g1, c6, by rw [g4]; exact c7, g3⟩)
          | none =>
            rw [hp4] at hgo
            dsimp only at hgo
            cases hp45 : mx_str G F L y st i len with
            | some z =>
              rw [hp45] at hgo
              dsimp only at hgo
              obtain ⟨hm, hW⟩ := ih _ _ _ _ _ _ _ _ _ _ _ _ _ hgo
              refine ⟨hm, ?_⟩
              intro y1 cc1 nL1 ret1 p e R s m args below meth c A rh0 n0 rh ka H locs ls hRR hmu1 hE hC
              obtain ⟨hR1, hR2, hR3, hR4⟩ := hRR
              cases hmu.symm.trans hmu1
              obtain ⟨c1, c2, c3, c4, c5, c6, c7, c8⟩ := hC
              obtain ⟨x1, x2, x3, x4, x5, x6, x7, x8, x9, x10⟩ := hE
              exact mx_str_ok (Z := Z) (R := R) hgd hzo x1 x2 x8 x7 hst hd x3 c6 x9 c3 c5 c4 x10 c8 (Nat.le_trans hm.1 hR3) (Nat.le_trans hm.2 hR4) (by rw [hR1, hR2]; exact hp45) (fun H1 locs1 g1 g2 g3 => hW y cc nL ret p e R s m args below meth c A rh0 n0 rh ka H1 locs1 ls ⟨hR1, hR2, hR3, hR4⟩ hmu ⟨x1, x2, x3, x4, x5, x6, x7, x8, x9, x10⟩ ⟨c1, c2, c3, g2, g1, c6, c7, g3⟩)
            | none =>
             rw [hp45] at hgo
             dsimp only at hgo
             cases hp5 : mx_new G cn F L y st h i len with
             | some z =>
               rw [hp5] at hgo
               dsimp only at hgo
               obtain ⟨hlt, hgo⟩ := mx_ifk hgo
               obtain ⟨hm, hW⟩ := ih _ _ _ _ _ _ _ _ _ _ _ _ _ hgo
               refine ⟨⟨by omega, by omega⟩, ?_⟩
               intro y1 cc1 nL1 ret1 p e R s m args below meth c A rh0 n0 rh ka H locs ls hRR hmu1 hE hC
               obtain ⟨hR1, hR2, hR3, hR4⟩ := hRR
               cases hmu.symm.trans hmu1
               obtain ⟨c1, c2, c3, c4, c5, c6, c7, c8⟩ := hC
               obtain ⟨x1, x2, x3, x4, x5, x6, x7, x8, x9, x10⟩ := hE
               have hag : ∀ q, mx_agr h.length rh (va_up rh h.length q) := fun q i hi => by
                 have : i ≠ h.length := by omega
                 simp [va_up, this]
               refine mx_new_ok (Z := Z) (R := R) x1 x2 x8 x7 hcl hnw hna han hcn hd x3 c6 x9 c3 c5 c4 x10 c8 hlt (by rw [hR1, hR2]; exact hp5) (Nat.le_trans hm.1 hR3) (Nat.le_trans hm.2 hR4) (fun H1 q cA g1 g2 g3 => ?_)
               have hlen : (h ++ [z.2.1]).length = h.length + 1 := by simp
               have hso1 : mx_okS h.length z.1 := by
                 unfold mx_new at hp5
                 cases i
                 case new ix =>
                   dsimp only at hp5
                   obtain ⟨-, hp5⟩ := mx_ifk hp5
                   obtain ⟨_, _, -, hp5⟩ := mx_rs_el hp5
                   obtain ⟨_, -, hp5⟩ := mx_sv_el hp5
                   cases hp5
                   exact c8
                 case newarray at1 =>
                   dsimp only at hp5
                   obtain ⟨-, hp5⟩ := mx_ifk hp5
                   obtain ⟨_, r, e1, hp5⟩ := mx_i1_el hp5
                   obtain ⟨-, hp5⟩ := mx_ifk hp5
                   cases hp5
                   rw [e1] at c8
                   exact c8.t
                 case anewarray ix =>
                   dsimp only at hp5
                   obtain ⟨-, hp5⟩ := mx_ifk hp5
                   obtain ⟨_, r, e1, hp5⟩ := mx_i1_el hp5
                   obtain ⟨-, hp5⟩ := mx_ifk hp5
                   obtain ⟨⟨t, a, b⟩, -, hp5⟩ := mx_sv_el hp5
                   dsimp only at hp5
                   rw [e1] at c8
                   by_cases ht : t = 10
                   · rw [if_pos ht] at hp5
                     obtain ⟨_, -, hp5⟩ := mx_sv_el hp5
                     cases hp5
                     exact c8.t
                   · rw [if_neg ht] at hp5
                     obtain ⟨-, hp5⟩ := mx_ifk hp5
                     cases hp5
                     exact c8.t
                 case invokevirtual ix =>
                   dsimp only at hp5
                   obtain ⟨-, hp5⟩ := mx_ifk hp5
                   obtain ⟨_, _, -, hp5⟩ := mx_rs_el hp5
                   obtain ⟨_, r, e1, hp5⟩ := mx_ra_el hp5
                   obtain ⟨_, _, _, -, hp5⟩ := mx_ai_el hp5
                   obtain ⟨-, hp5⟩ := mx_ifk hp5
                   cases hp5
                   rw [e1] at c8
                   exact c8.t
                 all_goals (dsimp only at hp5; cases hp5)
               have hk := hW y cc nL ret p e R s m args below meth c A rh0 n0 (va_up rh h.length q) (va_up ka h.length cA) H1 locs ls ⟨hR1, hR2, hR3, hR4⟩ hmu ⟨x1, x2, x3, x4, x5, x6, x7, x8, x9, x10⟩ ⟨by rw [hlen]; omega, c2.tr (hag q) c1, hzo.2.2.2.2 A rh _ s s.heap (fun i hi => hag q i (Or.inr hi)) c3, g2, g1, by rw [(hag q).l c7]; exact c6, by rw [hlen]; exact c7.mono (Nat.le_succ _), by rw [hlen]; exact g3⟩
               have e1 : mx_trS (va_up rh h.length q) (.ref h.length :: z.1) = .ref q :: mx_trS rh z.1 := by
                 show Value.ref (va_up rh h.length q h.length) :: mx_trS (va_up rh h.length q) z.1 = _
                 rw [(hag q).s hso1, show va_up rh h.length q h.length = q by simp [va_up]]
               rw [e1] at hk
               exact hk
             | none =>
               rw [hp5] at hgo
               dsimp only at hgo
               obtain ⟨⟨kd, nu, As, rest⟩, hcall, hgo⟩ := mx_sv_el hgo
               obtain ⟨⟨y2, cc2, nL2, ret2⟩, hnu, hgo⟩ := mx_sv_el hgo
               dsimp only at hgo hnu
               obtain ⟨⟨hrc, hsum, hsl, hF, hL⟩, hgo⟩ := mx_ifk hgo
               obtain ⟨⟨v2, h3, mc2, ms2⟩, hgo2, hgo⟩ := mx_sv_el hgo
               dsimp only at hgo hgo2
               obtain ⟨hm, hW⟩ := ih _ _ _ _ _ _ _ _ _ _ _ _ _ hgo
               refine ⟨⟨by omega, by omega⟩, ?_⟩
               intro y1 cc1 nL1 ret1 p e R s m args below meth c A rh0 n0 rh ka H locs ls hRR hmu1 hE hC
               obtain ⟨hR1, hR2, hR3, hR4⟩ := hRR
               cases hmu.symm.trans hmu1
               obtain ⟨c1, c2, c3, c4, c5, c6, c7, c8⟩ := hC
               obtain ⟨x1, x2, x3, x4, x5, x6, x7, x8, x9, x10⟩ := hE
               obtain ⟨hP, hD, hho, har⟩ := c5
               have hnu0 : nu ≠ 0 := by
                 rcases mx_call_el hcall with ⟨ix, b, A2, -, -, rfl, hres, -, -⟩ | ⟨ix, -, -, rfl, hres, -⟩ | ⟨ix, b, A2, -, -, hkd, hres, -, -⟩
                 · exact ((hiv _ _ _ _ _ hres _ _ _ _ hnu).1 rfl).1
                 · exact ((hiv _ _ _ _ _ hres _ _ _ _ hnu).2.1 rfl).1
                 · rcases hkd with rfl | rfl
                   · exact ((hiv _ _ _ _ _ hres _ _ _ _ hnu).2.2.1 rfl).1
                   · exact ((hiv _ _ _ _ _ hres _ _ _ _ hnu).2.2.2 rfl).1
               obtain ⟨m1, m2, m3, m4⟩ := hmt _ _ _ _ _ hnu hnu0
               have hsub : ∀ q, va_A (mx_ws rh ka h) H.size q → A q := by
                 intro q hq
                 rcases hq with ⟨k, e1, hq⟩ | hq
                 · exact hD.2 k _ hq
                 · exact x10 q (Nat.le_trans c4.1 hq)
               have hoAR : mx_okS h.length As ∧ mx_okS h.length rest := by
                 rcases mx_call_el hcall with ⟨ix, b, A2, -, -, -, -, rfl, rfl⟩ | ⟨ix, -, -, -, -, rfl⟩ | ⟨ix, b, A2, -, -, -, -, rfl, rfl⟩
                 · refine ⟨fun w hw => c8 w ?_, fun w hw => c8 w ?_⟩
                   · rcases List.mem_cons.mp hw with q | q
                     · rw [q]; exact List.mem_append_right _ List.mem_cons_self
                     · exact List.mem_append_left _ (List.mem_reverse.mpr q)
                   · exact List.mem_append_right _ (List.mem_cons_of_mem _ hw)
                 · exact ⟨fun w hw => c8 w (List.mem_append_left _ (List.mem_reverse.mpr hw)), fun w hw => c8 w (List.mem_append_right _ hw)⟩
                 · refine ⟨fun w hw => c8 w ?_, fun w hw => c8 w ?_⟩
                   · rcases List.mem_cons.mp hw with q | q
                     · rw [q]; exact List.mem_append_right _ List.mem_cons_self
                     · exact List.mem_append_left _ (List.mem_reverse.mpr q)
                   · exact List.mem_append_right _ (List.mem_cons_of_mem _ hw)
               have hMet := mx_met ih hgo2 hnu m1 hsl hoAR.1 rh ka H.size
               have hpre : ∀ U : State, U.heap = H → s.WarmedH U.vm → mx_Pre D vwCl Z rh ka h H.size As (mx_trS rh As).toArray U := by
                 intro U hU hWm
                 subst hU
                 exact ⟨rfl, rfl, ⟨hP, hD.self, hho, har.moved hWm.alike⟩, va_K.moved hWm.alike x9, hzo.1 _ _ s U _ hWm (hzo.2.2.2.1 A _ rh s _ hsub (hzo.2.2.1 A rh s _ _ c4.2.1 c3))⟩
               have hblind : FrameBlind (mx_Pre D vwCl Z rh ka h H.size As) := by
                 intro a U g mk q
                 obtain ⟨q0, q1, ⟨qP, qD, qo, qa⟩, qK, qZ⟩ := q
                 exact ⟨q0, q1, ⟨qP, qD, qo, mx_arr.moved (u := U) (U := U.calling g mk a) (Vm.Alike.refl U.vm) qa⟩, va_K.moved (u := U) (U := U.calling g mk a) (Vm.Alike.refl U.vm) qK, hzo.2.1 _ _ U _ _ rfl qZ⟩
               have hsm : ((mx_trS rh rest).map fun v => v.category).sum ≤ 8 := by
                 rw [List.map_map]
                 have e1 : (List.map ((fun v : Value => v.category) ∘ mx_tr rh) rest) = rest.map fun v => v.category := List.map_congr_left (fun v _ => mx_tr_cat rh v)
                 rw [e1]
                 exact hsum
               have hroom : 2 * (F0 m pc ls (mx_trS rh st)).monitorRoom + ((mx_trS rh rest).map fun v => v.category).sum ≤ 8 := by
                 have e1 : (F0 m pc ls (mx_trS rh st)).monitorRoom = 0 := rfl
                 rw [e1]
                 omega
               have hgood : ∀ ws : List Cond, (∀ w ∈ ws, w ∈ big) → GoodIn big (ws ++ (Cond.code y2 cc2 nL2 ret2 :: big)) := by
                 intro ws hws w hw
                 rcases List.mem_append.mp hw with q | q
                 · exact hgd w (hws w q)
                 · rcases List.mem_cons.mp q with q2 | q2
                   · rw [q2]; exact hgd _ m2
                   · exact hgd w q2
               have hRm : (F - 1) + 1 ≤ R.frames ∧ 8 + (nL2 + 11) + (L - (19 + nL2)) ≤ R.locals := ⟨by omega, by omega⟩
               have hgo3 : ∀ a : Array Value, va_Run p l e R s m args below meth c H locs cells slots mc2 ms2 (F0 m pc ls (mx_trS rh st)) (mx_trS rh rest) (mx_Post D vwCl (va_A (mx_ws rh ka h) H.size) rh h.length h3 v2 a) (va_A (mx_ws rh ka h) H.size) → W p l e R s m args below meth c H locs cells slots (MQ below (mx_Post D vwCl A rh0 n0 h2 v) args s mc ms A) (F0 m pc ls (mx_trS rh st)) := by
                 intro a hrun
                 refine mx_callk hrun c4.2.2 hsub (fun w u t H1 locs1 hu ht hal hq hl1 => ?_)
                 obtain ⟨⟨rh3, ka3, g1, g2, ⟨gP, gD, go, ga⟩, g4, g5⟩, gF1, gF2⟩ := hq
                 have e1 : w = v2.map (mx_tr rh3) := Outcome.returned.inj g2
                 rw [hu] at gF1 gF2
                 have hk := hW y cc nL ret p e R s m args below meth c A rh0 n0 rh3 ka3 H1 locs1 ls ⟨hR1, hR2, hR3, hR4⟩ hmu ⟨x1, x2, x3, x4, x5, x6, x7, x8, x9, x10⟩ ⟨Nat.le_trans c1 g4, c2.tr g1 c1, hzo.2.2.2.2 A rh rh3 s s.heap (fun i hi => g1 i (Or.inr hi)) c3, ⟨by rw [← ht]; exact Nat.le_trans c4.1 gF1, fun q h1 h2 => by rw [← ht, gF2 q (Nat.lt_of_lt_of_le h1 c4.1) (fun z => h2 (hsub q z))]; exact c4.2.1 q h1 h2, hl1⟩, ⟨by rw [← ht]; exact gP, gD.weaken (fun k q _ hq2 => hsub q.1 hq2), go, ga.moved hal.symm⟩, by rw [g1.l c7]; exact c6, c7.mono g4, ?_⟩
                 · have e2 : mx_trS rh3 (v2.toList ++ rest) = w.toList ++ mx_trS rh rest := by
                     rw [e1]
                     show List.map (mx_tr rh3) (v2.toList ++ rest) = _
                     rw [List.map_append]
                     have e3 : List.map (mx_tr rh3) rest = mx_trS rh rest := g1.s hoAR.2
                     rw [e3]
                     cases v2 <;> rfl
                   rw [e2] at hk
                   exact hk
                 · intro x hx
                   rcases List.mem_append.mp hx with q | q
                   · cases v2 with
                     | none => cases q
                     | some x2 => rw [List.mem_singleton.mp q]; exact g5 x2 rfl
                   · exact (hoAR.2 x q).mono g4
               rcases mx_call_el hcall with ⟨ix, b, A2, rfl, rfl, rfl, hres, rfl, rfl⟩ | ⟨ix, rfl, rfl, rfl, hres, rfl⟩ | ⟨ix, b, A2, rfl, rfl, hkd, hres, rfl, rfl⟩
               · obtain ⟨-, w1, w2, w3, w4, w5⟩ := (hiv _ _ _ _ _ hres _ _ _ _ hnu).1 rfl
                 have hrecv : ∃ cellB : Cell, H[rh b]? = some cellB ∧ cellB.vm.isStatics = false ∧ s.vm.findClass y2.cls = some cellB.cls := by
                   unfold mx_rcv at hrc
                   rw [if_pos rfl] at hrc
                   dsimp only at hrc
                   cases hb0 : h[b]? with
                   | none => rw [hb0] at hrc; cases hrc
                   | some x =>
                     rw [hb0] at hrc
                     obtain ⟨ty, xx⟩ | ⟨ci, fs⟩ := x
                     · cases hrc
                     · have hcn : cn ci = some y2.cls := of_decide_eq_true hrc
                       obtain ⟨⟨C2, T2, N2⟩, hr', cellV, k1, k2, k3, -⟩ := hP b _ (mx_ws_at hb0)
                       have hC := (hcl _ _ _ _ hr').2.2.2 _ hcn
                       subst hC
                       exact ⟨cellV, k1, by rw [k3]; rfl, by rw [k2]; exact (x9.1 ci _ hr').2.1⟩
                 have hw4 : ∀ w ∈ ([.methodLink y.cls ix y2, .instanceMethod y2, .selects y2.cls y2 y2, .initialized y2.cls] : List Cond), w ∈ big := by
                   intro w hw
                   simp only [List.mem_cons, List.not_mem_nil, or_false] at hw
                   rcases hw with q | q | q | q <;> rw [q] <;> assumption
                 exact hgo3 _ (va_runV (Ts := big) (own := y.cls) (C := y2.cls) (b := rh b) (As := mx_trS rh A2) (rest := mx_trS rh rest) (bytes := cc2) (maxL := nL2) (ret := ret2) ⟨x1, x2, x3, x7, x8⟩ hMet (cwV A2.length x8 (hgood _ hw4) rfl rfl rfl ⟨rfl, m3, m4, w5⟩ hRm) ⟨hblind, hrecv, hpre⟩ rfl (by rw [List.length_map]) c6.1 (by show mx_trS rh (A2.reverse ++ Value.ref b :: rest) = _; unfold mx_trS; rw [List.map_append, List.map_reverse]; rfl) hroom hd ⟨Nat.le_trans hm.1 hR3, Nat.le_trans hm.2 hR4⟩)
               · obtain ⟨-, w1, w2, w3, w5⟩ := (hiv _ _ _ _ _ hres _ _ _ _ hnu).2.1 rfl
                 have hw4 : ∀ w ∈ ([.methodLink y.cls ix y2, .static y2, .initialized y2.cls] : List Cond), w ∈ big := by
                   intro w hw
                   simp only [List.mem_cons, List.not_mem_nil, or_false] at hw
                   rcases hw with q | q | q <;> rw [q] <;> assumption
                 exact hgo3 _ (va_runS (Ts := big) (own := y.cls) (As := mx_trS rh As) (rest := mx_trS rh rest) (bytes := cc2) (maxL := nL2) (ret := ret2) ⟨x1, x2, x3, x7, x8⟩ hMet (va_cwS As.length x8 (hgood _ hw4) rfl rfl rfl ⟨m3, m4, w5⟩ hRm) ⟨hblind, hpre⟩ rfl (by rw [List.length_map]) c6.1 (by show mx_trS rh (As.reverse ++ rest) = _; unfold mx_trS; rw [List.map_append, List.map_reverse]) hroom hd ⟨Nat.le_trans hm.1 hR3, Nat.le_trans hm.2 hR4⟩)
               · rcases hkd with rfl | rfl
                 · obtain ⟨-, w1, w2, w3, w4, rfl, w5⟩ := (hiv _ _ _ _ _ hres _ _ _ _ hnu).2.2.1 rfl
                   exact hgo3 _ (va_runI (Ts := big) (own := y.cls) (b := rh b) (As := mx_trS rh A2) (rest := mx_trS rh rest) (bytes := cc2) (maxL := nL2) ⟨x1, x2, x3, x7, x8⟩ hMet (cwI A2.length x8 (hgood [] (fun w hw => by cases hw)) rfl rfl rfl (x8 _ w3) (x8 _ w1) (x8 _ w2) w4 ⟨m3, m4, w5⟩ hRm) ⟨hblind, hpre⟩ rfl (by rw [List.length_map]) c6.1 (by show mx_trS rh (A2.reverse ++ Value.ref b :: rest) = _; unfold mx_trS; rw [List.map_append, List.map_reverse]; rfl) hroom hd ⟨Nat.le_trans hm.1 hR3, Nat.le_trans hm.2 hR4⟩)
                 · obtain ⟨-, w2, w3, w4, rfl, w5, host, w6⟩ := (hiv _ _ _ _ _ hres _ _ _ _ hnu).2.2.2 rfl
                   exact hgo3 _ (va_runIN (Ts := big) (own := y.cls) (host := host) (b := rh b) (As := mx_trS rh A2) (rest := mx_trS rh rest) (bytes := cc2) (maxL := nL2) ⟨x1, x2, x3, x7, x8⟩ hMet ⟨va_cnB A2.length x8 (hgood [] (fun w hw => by cases hw)) rfl rfl rfl (w6 _ _ _ _ c3) (x8 _ w3) ⟨m3, m4, w5⟩ hRm, w4, x8 _ w2⟩ ⟨hblind, hpre⟩ rfl (by rw [List.length_map]) c6.1 (by show mx_trS rh (A2.reverse ++ Value.ref b :: rest) = _; unfold mx_trS; rw [List.map_append, List.map_reverse]; rfl) hroom hd ⟨Nat.le_trans hm.1 hR3, Nat.le_trans hm.2 hR4⟩)
