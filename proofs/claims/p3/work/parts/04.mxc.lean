/-- a program: its methods (name, bytes, locals, what comes back); what a place of a class's pool means (kind, and two numbers); a field's type, whether it is final, and whose it is; the script; the texts -/
abbrev mx_G : Type := (Nat → Option (MethodName × ByteArray × Nat × Option FieldType)) × (String → Nat → Option (Nat × Nat × Nat)) × (Nat → Nat → Option (FieldType × Bool × String)) × (Nat × (Nat → Int32)) × (Nat → Option (Nat × (Nat → Int32)))
def mx_rs {α : Type} (o : Option (Nat × Nat × Nat)) (t : Nat) (F : Nat → Nat → Option α) : Option α := match o with
  | some (t1, x, y) => if t1 = t then F x y else none
  | none => none
def mx_ra {α : Type} (st : List Value) (F : Nat → List Value → Option α) : Option α := match st with
  | .ref a :: r => F a r
  | _ => none
def mx_va {α : Type} (st : List Value) (F : Value → Nat → List Value → Option α) : Option α := match st with
  | v :: .ref a :: r => F v a r
  | _ => none
def mx_ia {α : Type} (st : List Value) (F : Int32 → Nat → List Value → Option α) : Option α := match st with
  | .int j :: .ref a :: r => F j a r
  | _ => none
def mx_via {α : Type} (st : List Value) (F : Value → Int32 → Nat → List Value → Option α) : Option α := match st with
  | v :: .int j :: .ref a :: r => F v j a r
  | _ => none
def mx_ob {α : Type} (h : mx_H) (a : Nat) (F : Nat → List Value → Option α) : Option α := match h[a]? with
  | some (.inr (ci, fs)) => F ci fs
  | _ => none
def mx_ai {α : Type} (h : mx_H) (a : Nat) (F : FieldType → Nat → (Nat → Int32) → Option α) : Option α := match h[a]? with
  | some (.inl (ty, n, .inl f)) => F ty n f
  | _ => none
def mx_aq {α : Type} (h : mx_H) (a : Nat) (F : FieldType → Nat → (Nat → Option Nat) → Option α) : Option α := match h[a]? with
  | some (.inl (ty, n, .inr (.inr (.inr (.inr f))))) => F ty n f
  | _ => none
def mx_av {α : Type} (h : mx_H) (a : Nat) (F : FieldType → vp_A → Option α) : Option α := match h[a]? with
  | some (.inl (ty, x)) => F ty x
  | _ => none
def mx_sv {α β : Type} (o : Option α) (F : α → Option β) : Option β := match o with
  | some v => F v
  | none => none
theorem mx_rs_el {α : Type} {o : Option (Nat × Nat × Nat)} {t : Nat} {F : Nat → Nat → Option α} {z : α} (h : mx_rs o t F = some z) : ∃ x y, o = some (t, x, y) ∧ F x y = some z := by
  unfold mx_rs at h
  split at h
  · obtain ⟨h1, h2⟩ := mx_ifk h
    subst h1
    exact ⟨_, _, rfl, h2⟩
  · cases h
theorem mx_ra_el {α : Type} {st : List Value} {F : Nat → List Value → Option α} {z : α} (h : mx_ra st F = some z) : ∃ a r, st = .ref a :: r ∧ F a r = some z := by
  unfold mx_ra at h
  split at h
  · exact ⟨_, _, rfl, h⟩
  · cases h
theorem mx_va_el {α : Type} {st : List Value} {F : Value → Nat → List Value → Option α} {z : α} (h : mx_va st F = some z) : ∃ v a r, st = v :: .ref a :: r ∧ F v a r = some z := by
  unfold mx_va at h
  split at h
  · exact ⟨_, _, _, rfl, h⟩
  · cases h
theorem mx_ia_el {α : Type} {st : List Value} {F : Int32 → Nat → List Value → Option α} {z : α} (h : mx_ia st F = some z) : ∃ j a r, st = .int j :: .ref a :: r ∧ F j a r = some z := by
  unfold mx_ia at h
  split at h
  · exact ⟨_, _, _, rfl, h⟩
  · cases h
theorem mx_via_el {α : Type} {st : List Value} {F : Value → Int32 → Nat → List Value → Option α} {z : α} (h : mx_via st F = some z) : ∃ v j a r, st = v :: .int j :: .ref a :: r ∧ F v j a r = some z := by
  unfold mx_via at h
  split at h
  · exact ⟨_, _, _, _, rfl, h⟩
  · cases h
theorem mx_ob_el {α : Type} {hh : mx_H} {a : Nat} {F : Nat → List Value → Option α} {z : α} (h : mx_ob hh a F = some z) : ∃ ci fs, hh[a]? = some (.inr (ci, fs)) ∧ F ci fs = some z := by
  unfold mx_ob at h
  split at h
  · exact ⟨_, _, by assumption, h⟩
  · cases h
theorem mx_ai_el {α : Type} {hh : mx_H} {a : Nat} {F : FieldType → Nat → (Nat → Int32) → Option α} {z : α} (h : mx_ai hh a F = some z) : ∃ ty n f, hh[a]? = some (.inl (ty, n, .inl f)) ∧ F ty n f = some z := by
  unfold mx_ai at h
  split at h
  · exact ⟨_, _, _, by assumption, h⟩
  · cases h
theorem mx_aq_el {α : Type} {hh : mx_H} {a : Nat} {F : FieldType → Nat → (Nat → Option Nat) → Option α} {z : α} (h : mx_aq hh a F = some z) : ∃ ty n f, hh[a]? = some (.inl (ty, n, .inr (.inr (.inr (.inr f))))) ∧ F ty n f = some z := by
  unfold mx_aq at h
  split at h
  · exact ⟨_, _, _, by assumption, h⟩
  · cases h
theorem mx_av_el {α : Type} {hh : mx_H} {a : Nat} {F : FieldType → vp_A → Option α} {z : α} (h : mx_av hh a F = some z) : ∃ ty x, hh[a]? = some (.inl (ty, x)) ∧ F ty x = some z := by
  unfold mx_av at h
  split at h
  · exact ⟨_, _, by assumption, h⟩
  · cases h
theorem mx_sv_el {α β : Type} {o : Option α} {F : α → Option β} {z : β} (h : mx_sv o F = some z) : ∃ v, o = some v ∧ F v = some z := by
  unfold mx_sv at h
  split at h
  · exact ⟨_, rfl, h⟩
  · cases h
/-- what may be stored in an array of references: nothing, an object of its class, an array of its component -/
def mx_fitq (cn : Nat → Option String) (h : mx_H) (ty : FieldType) (v : Value) : Option (Option Nat) := match v with
  | .null => match ty with
    | .object _ => some none
    | .array .byte => some none
    | _ => none
  | .ref b => match h[b]? with
    | some (.inr (ci, _)) => match cn ci with
      | some C => if ty = .object C then some (some b) else none
      | none => none
    | some (.inl (ty2, _)) => if ty2 = .byte ∧ ty = .array .byte then some (some b) else none
    | none => none
  | _ => none
/-- an instruction that reads or writes cells: the stack and the cells behind it -/
def mx_heap (G : mx_G) (cn : Nat → Option String) (y : MethodName) (st : List Value) (h : mx_H) (i : Jvm.ClassFile.Instr) (len : Nat) : Option (List Value × mx_H) := match i with
  | .getfield ix => if len = 3 then mx_ra st fun a r => mx_rs (G.2.1 y.cls ix) 0 fun ci k => mx_ob h a fun cj fs => if cj = ci then mx_sv fs[k]? fun v => some (v :: r, h) else none else none
  | .putfield ix => if len = 3 then mx_va st fun v a r => mx_rs (G.2.1 y.cls ix) 0 fun ci k => mx_ob h a fun cj fs => if cj = ci then mx_sv (G.2.2.1 ci k) fun q => if narrow q.1 v = v ∧ fits q.1 v = true ∧ k < fs.length ∧ (q.2.1 = true → y.name = "<init>" ∧ q.2.2 = y.cls) then some (r, h.set a (.inr (ci, fs.set k v))) else none else none else none
  | .iaload => if len = 1 then mx_ia st fun j a r => mx_ai h a fun ty n f => if ty = .int ∧ ¬ (j < 0 ∨ n ≤ j.toNatClampNeg) then some (.int (f j.toNatClampNeg) :: r, h) else none else none
  | .baload => if len = 1 then mx_ia st fun j a r => mx_ai h a fun ty n f => if (ty = .byte ∨ ty = .boolean) ∧ ¬ (j < 0 ∨ n ≤ j.toNatClampNeg) then some (.int (f j.toNatClampNeg) :: r, h) else none else none
  | .aaload => if len = 1 then mx_ia st fun j a r => mx_aq h a fun ty n f => if ty.isReference = true ∧ ¬ (j < 0 ∨ n ≤ j.toNatClampNeg) then some (va_rf (f j.toNatClampNeg) :: r, h) else none else none
  | .iastore => if len = 1 then mx_via st fun v j a r => mx_gi (some v) fun x => mx_ai h a fun ty n f => if ty = .int ∧ ¬ (j < 0 ∨ n ≤ j.toNatClampNeg) then some (r, h.set a (.inl (ty, n, .inl (upd f j.toNatClampNeg x)))) else none else none
  | .bastore => if len = 1 then mx_via st fun v j a r => mx_gi (some v) fun x => mx_ai h a fun ty n f => if (ty = .byte ∨ ty = .boolean) ∧ ¬ (j < 0 ∨ n ≤ j.toNatClampNeg) then some (r, h.set a (.inl (ty, n, .inl (upd f j.toNatClampNeg (vp_nar ty x))))) else none else none
  | .aastore => if len = 1 then mx_via st fun v j a r => mx_aq h a fun ty n f => if ¬ (j < 0 ∨ n ≤ j.toNatClampNeg) then mx_sv (mx_fitq cn h ty v) fun b => some (r, h.set a (.inl (ty, n, .inr (.inr (.inr (.inr (va_up f j.toNatClampNeg b))))))) else none else none
  | .arraylength => if len = 1 then mx_ra st fun a r => mx_av h a fun ty x => some (.int (Int32.ofNat x.1) :: r, h) else none
  | _ => none
/-- what must hold of a class of the program -/
def mx_clOk (cl : List vw_C) (big : List Cond) (G : mx_G) (cn : Nat → Option String) : Prop := ∀ (ci : Nat) (C : String) (T : u_T) (N : Nat), cl[ci]? = some (C, T, N) → (∀ w ∈ u_ws C T N, w ∈ big) ∧ (∃ ty0 : Nat → FieldType, (∀ k, k < N → parseFieldDescriptor (T k).2.2.1 = some (ty0 k)) ∧ ∀ k q, G.2.2.1 ci k = some q → k < N → q = (ty0 k, (T k).2.2.2, (T k).1)) ∧ (∀ a, a < N → ∀ b, b < N → a ≠ b → (T a).2.1 ≠ (T b).2.1) ∧ ∀ C2, cn ci = some C2 → C2 = C
/-- what must hold of a field's place in a pool -/
def mx_fdOk (cl : List vw_C) (big : List Cond) (G : mx_G) : Prop := ∀ (own : String) (ix ci k : Nat), G.2.1 own ix = some (0, ci, k) → ∃ (C : String) (T : u_T) (N : Nat), cl[ci]? = some (C, T, N) ∧ k < N ∧ Cond.fieldLink own ix (T k).1 (T k).2.1 (T k).2.2.1 ∈ big
theorem mx_asg (vm : Vm) (k : ClassId) : vm.assignable k k = true := by
  show vm.assignableAux (255 + 1) k k = true
  rw [Vm.assignableAux]
  simp only [beq_self_eq_true, Bool.true_or]
theorem mx_fitq_el {cn : Nat → Option String} {h : mx_H} {ty : FieldType} {v : Value} {b : Option Nat} (hq : mx_fitq cn h ty v = some b) : (v = .null ∧ b = none ∧ ((∃ C, ty = .object C) ∨ ty = .array .byte)) ∨ (∃ b0 ci fs C, v = .ref b0 ∧ b = some b0 ∧ h[b0]? = some (.inr (ci, fs)) ∧ cn ci = some C ∧ ty = .object C) ∨ ∃ b0 x, v = .ref b0 ∧ b = some b0 ∧ h[b0]? = some (.inl (.byte, x)) ∧ ty = .array .byte := by
  cases v with
  | null =>
    cases ty with
    | object C => cases hq; exact Or.inl ⟨rfl, rfl, Or.inl ⟨C, rfl⟩⟩
    | array t =>
      cases t with
      | byte => cases hq; exact Or.inl ⟨rfl, rfl, Or.inr rfl⟩
      | _ => cases hq
    | _ => cases hq
  | ref b0 =>
    unfold mx_fitq at hq
    dsimp only at hq
    cases hb : h[b0]? with
    | none => rw [hb] at hq; cases hq
    | some x =>
      rw [hb] at hq
      obtain ⟨ty2, y⟩ | ⟨ci, fs⟩ := x
      · dsimp only at hq
        obtain ⟨⟨h1, h2⟩, h3⟩ := mx_ifk hq
        cases h3
        subst h1
        exact Or.inr (Or.inr ⟨b0, y, rfl, rfl, hb, h2⟩)
      · dsimp only at hq
        cases hc : cn ci with
        | none => rw [hc] at hq; cases hq
        | some C =>
          rw [hc] at hq
          dsimp only at hq
          obtain ⟨h1, h3⟩ := mx_ifk hq
          cases h3
          exact Or.inr (Or.inl ⟨b0, ci, fs, C, rfl, rfl, hb, hc, h1⟩)
  | _ => cases hq
section MXH
variable {p : Program} {l : Launch} {e : Env} {R : Room} {s : State} {m : MethodId} {args : Array Value} {below : List Frame} {meth : Method} {c : Code} {H : Heap} {locs : List Loc} {cells slots : Nat} {Q : State → Prop}
variable {cc : ByteArray} {pc : Nat} {ls : Array Slot} {rest : List Value} {D : va_G} {cl : List vw_C} {A : Nat → Prop} {H0 : Heap}
/-- null, stored in a row of byte rows -/
theorem mx_aN {T : State} (X : Stand p l e R s m args below meth c T locs cells slots) (hx : p.tables.exec = Jvm.exec) {a : Addr} {o : Cell} {j : Int32} (ho : T.heap[a]? = some o) (ha : s.isArrayOf o (.array .byte)) (hu : o.vm ≠ .unknown) (hi : ¬ (j < 0 ∨ o.slots.size ≤ j.toNatClampNeg))
    {g : JFrame} (hg : g.method = m) {r : List Value} (hs : g.stack = .null :: .int j :: .ref a :: r) (hd : decode c.code g.pc = .ok (.aastore, 1)) :
    Stand p l e R s m args below meth c (T.setCell a (o.setSlot j.toNatClampNeg .null)) (locs ++ [⟨a, j.toNatClampNeg⟩]) cells slots ∧
      ∀ t, Steps p.tables e below ((T.setCell a (o.setSlot j.toNatClampNeg .null)).setTop { g with pc := g.pc + 1, stack := r }) t → Steps p.tables e below (T.setTop g) t := by
  have h1 := State.isArrayOf_alike X.warmed.alike ha
  have h2 : T.fitsSlot o.cls o.vm j.toNatClampNeg .null = true := by
    obtain ⟨q1, k, q2, comp, q3⟩ := h1
    cases q4 : o.vm <;> first | exact absurd q4 (q1 _) | simp [State.fitsSlot, State.slotType?, q2, q3, fits]
  refine ⟨X.stored ho _ _, fun t ht => ?_⟩
  subst hg
  jvm_step X.here [hx, hd]
  refine aastore.wp_of_null (c := o) (t := .array .byte) X.here.top hs ho h1 hi hu (Nat.not_le.mp fun q => hi (Or.inr q)) h2 ?_
  intro acts
  rw [afterInstr_ok]
  exact ht
theorem mx_WN (hx : p.tables.exec = Jvm.exec) (hb : c.code = cc) {a : Addr} {o : Cell} {j : Int32} (ho : H[a]? = some o) (ha : s.isArrayOf o (.array .byte)) (hu : o.vm ≠ .unknown) (hi : ¬ (j < 0 ∨ o.slots.size ≤ j.toNatClampNeg))
    {g : JFrame} (hg : g.method = m) {r : List Value} (hs : g.stack = .null :: .int j :: .ref a :: r) (hd : decode cc g.pc = .ok (.aastore, 1))
    (k : ∀ H2 : Heap, H2[a]? = some (o.setSlot j.toNatClampNeg .null) → H2.size = H.size → (∀ q, q ≠ a → H2[q]? = H[q]?) → W p l e R s m args below meth c H2 (locs ++ [⟨a, j.toNatClampNeg⟩]) cells slots Q { g with pc := g.pc + 1, stack := r }) :
    W p l e R s m args below meth c H locs cells slots Q g := by
  intro T hT X
  have h1 : T.heap[a]? = some o := by rw [hT]; exact ho
  obtain ⟨X2, st⟩ := mx_aN X hx h1 ha hu hi hg hs (by rw [hb]; exact hd)
  have h2 : a < T.heap.size := (Array.getElem?_eq_some_iff.mp h1).1
  obtain ⟨t, a1, b1⟩ := k _ (heapAt_setCell_self _ h2) (by rw [size_setCell, hT]) (fun q hq => by rw [heapAt_setCell_ne _ (Ne.symm hq), hT]) (T.setCell a (o.setSlot j.toNatClampNeg .null)) rfl X2
  exact ⟨t, st t a1, b1⟩
set_option maxHeartbeats 4000000 in
theorem mx_heap_ok (hx : p.tables.exec = Jvm.exec) (hb : c.code = cc) {G : mx_G} {cn : Nat → Option String} {big : List Cond} {y : MethodName} (hts : ∀ w ∈ big, w.before args s = true) (hown : s.vm.findClass y.cls = some m.cls) (hnm : y.name = "<init>" → meth.name = y.name) (hcl : mx_clOk cl big G cn) (hfd : mx_fdOk cl big G)
    {len : Nat} {st : List Value} {h : mx_H} {i : Jvm.ClassFile.Instr} {rh : Nat → Nat} {ka : Nat → ClassId} {z : List Value × mx_H} (hd : decode cc pc = .ok (i, len)) (hK : va_K D cl [] s) (hR : mx_Rel D cl A rh ka h s H) (hS : va_S A H0 H locs) (hso : mx_okS h.length st)
    (hz : mx_heap G cn y st h i len = some z) (kk : ∀ (H1 : Heap) (locs1 : List Loc), mx_Rel D cl A rh ka z.2 s H1 → va_S A H0 H1 locs1 → mx_okS z.2.length z.1 → z.2.length = h.length → W p l e R s m args below meth c H1 locs1 cells slots Q (F0 m (pc + len) ls (mx_trS rh z.1))) : W p l e R s m args below meth c H locs cells slots Q (F0 m pc ls (mx_trS rh st)) := by
  obtain ⟨hP, hD, hho, har⟩ := hR
  unfold mx_heap at hz
  cases i
  case getfield ix =>
    dsimp only at hz
    replace hz := mx_ifk hz; obtain ⟨rfl, hz⟩ := hz
    replace hz := mx_ra_el hz; obtain ⟨a, r, rfl, hz⟩ := hz
    replace hz := mx_rs_el hz; obtain ⟨ci, k, hrs, hz⟩ := hz
    replace hz := mx_ob_el hz; obtain ⟨cj, fs, ho, hz⟩ := hz
    replace hz := mx_ifk hz; obtain ⟨rfl, hz⟩ := hz
    replace hz := mx_sv_el hz; obtain ⟨v, hv, hz⟩ := hz
    cases hz
    obtain ⟨C, T, N, hc, hk, hlk⟩ := hfd _ _ _ _ hrs
    obtain ⟨hin, -, -, -⟩ := hcl _ _ _ _ hc
    have hov : mx_okV h.length v := (hho.at ho : mx_okS h.length fs) v (List.mem_of_getElem? hv)
    exact va_get (D := D) (C := C) (T := T) (N := N) (fs := mx_trS rh fs) hx hb hts hin hown hK hP a (mx_ws_at ho) hc k hk (hts _ hlk) (fun _ h9 => h9) (by rw [List.getElem?_map, hv]; rfl) hd (kk H locs ⟨hP, hD, hho, har⟩ hS (hso.t.c hov) rfl)
  case putfield ix =>
    dsimp only at hz
    replace hz := mx_ifk hz; obtain ⟨rfl, hz⟩ := hz
    replace hz := mx_va_el hz; obtain ⟨v, a, r, rfl, hz⟩ := hz
    replace hz := mx_rs_el hz; obtain ⟨ci, k, hrs, hz⟩ := hz
    replace hz := mx_ob_el hz; obtain ⟨cj, fs, ho, hz⟩ := hz
    replace hz := mx_ifk hz; obtain ⟨rfl, hz⟩ := hz
    replace hz := mx_sv_el hz; obtain ⟨q, hq, hz⟩ := hz
    replace hz := mx_ifk hz; obtain ⟨⟨hn, hf, hlt, hfin⟩, hz⟩ := hz
    cases hz
    obtain ⟨C, T, N, hc, hk, hlk⟩ := hfd _ _ _ _ hrs
    obtain ⟨hin, ⟨ty0, hty, hft⟩, hdn, -⟩ := hcl _ _ _ _ hc
    have hqe := hft k q hq hk
    subst hqe
    have hk2 : ∀ (H1 : Heap) (locs1 : List Loc), va_P D cl ((mx_ws rh ka h).set a (rh a, .inr (cj, (mx_trS rh fs).set k (mx_tr rh v)))) H1 → va_D A ((mx_ws rh ka h).set a (rh a, .inr (cj, (mx_trS rh fs).set k (mx_tr rh v)))) → va_S A H0 H1 locs1 → W p l e R s m args below meth c H1 locs1 cells slots Q (F0 m (pc + 3) ls (mx_trS rh r)) := by
      intro H1 locs1 h1 h2 h3
      have e1 : (mx_ws rh ka h).set a (rh a, .inr (cj, (mx_trS rh fs).set k (mx_tr rh v))) = mx_ws rh ka (h.set a (.inr (cj, fs.set k v))) := by
        rw [← mx_ws_set]
        show _ = (mx_ws rh ka h).set a (rh a, Sum.inr (cj, mx_trS rh (fs.set k v)))
        rw [show mx_trS rh (fs.set k v) = (mx_trS rh fs).set k (mx_tr rh v) from List.map_set]
      rw [e1] at h1 h2
      refine kk H1 locs1 ⟨h1, h2, hho.set ?_, har.setO⟩ h3 ?_ (by rw [List.length_set])
      · intro w hw
        rcases List.mem_or_eq_of_mem_set hw with q1 | q1
        · exact (hho.at ho : mx_okS h.length fs) w q1
        · rw [q1]; exact hso.hd
      · rw [List.length_set]; exact hso.t.t
    have hl2 : k < (mx_trS rh fs).length := by rw [List.length_map]; exact hlt
    cases hb2 : (T k).2.2.2 with
    | false => exact va_put (D := D) (C := C) (T := T) (N := N) (fs := mx_trS rh fs) (ty := ty0 k) hx hb hts hin ty0 hty hdn hown hK hP hD hS a (mx_ws_at ho) hc k hk (hts _ hlk) (fun _ h9 => h9) hb2 (hty k hk) (mx_narrow_tr rh hn) (mx_fits_tr rh hf) hl2 hd hk2
    | true =>
      obtain ⟨f1, f2⟩ := hfin hb2
      exact va_putF (D := D) (C := C) (T := T) (N := N) (fs := mx_trS rh fs) (ty := ty0 k) hx hb hts hin ty0 hty hdn hown hK hP hD hS a (mx_ws_at ho) hc k hk (hts _ hlk) (fun _ h9 => h9) hb2 ((hnm f1).trans f1) f2 (hty k hk) (mx_narrow_tr rh hn) (mx_fits_tr rh hf) hl2 hd hk2
  case iaload =>
    dsimp only at hz
    replace hz := mx_ifk hz; obtain ⟨rfl, hz⟩ := hz
    replace hz := mx_ia_el hz; obtain ⟨j, a, r, rfl, hz⟩ := hz
    replace hz := mx_ai_el hz; obtain ⟨ty, n, f, ho, hz⟩ := hz
    replace hz := mx_ifk hz; obtain ⟨⟨rfl, hj⟩, hz⟩ := hz
    cases hz
    exact va_iald hx hb (har.k hK ho) hP a 0 (mx_ws_at ho) rfl hj hd (kk H locs ⟨hP, hD, hho, har⟩ hS hso.t.t.i rfl)
  case baload =>
    dsimp only at hz
    replace hz := mx_ifk hz; obtain ⟨rfl, hz⟩ := hz
    replace hz := mx_ia_el hz; obtain ⟨j, a, r, rfl, hz⟩ := hz
    replace hz := mx_ai_el hz; obtain ⟨ty, n, f, ho, hz⟩ := hz
    replace hz := mx_ifk hz; obtain ⟨⟨hty, hj⟩, hz⟩ := hz
    cases hz
    rcases hty with rfl | rfl
    · exact va_bald hx hb (har.k hK ho) hP a 0 (mx_ws_at ho) rfl hj hd (kk H locs ⟨hP, hD, hho, har⟩ hS hso.t.t.i rfl)
    · exact va_zald hx hb (har.k hK ho) hP a 0 (mx_ws_at ho) rfl hj hd (kk H locs ⟨hP, hD, hho, har⟩ hS hso.t.t.i rfl)
  case aaload =>
    dsimp only at hz
    replace hz := mx_ifk hz; obtain ⟨rfl, hz⟩ := hz
    replace hz := mx_ia_el hz; obtain ⟨j, a, r, rfl, hz⟩ := hz
    replace hz := mx_aq_el hz; obtain ⟨ty, n, f, ho, hz⟩ := hz
    replace hz := mx_ifk hz; obtain ⟨⟨hty, hj⟩, hz⟩ := hz
    cases hz
    have hlt : j.toNatClampNeg < n := Nat.not_le.mp fun q => hj (Or.inr q)
    have hov : mx_okV h.length (va_rf (f j.toNatClampNeg)) := by
      cases hfj : f j.toNatClampNeg with
      | none => exact trivial
      | some b => exact (hho.at ho : ∀ j i, f j = some i → i < h.length ∨ 1000000000 ≤ i) _ b hfj
    have hk2 := kk H locs ⟨hP, hD, hho, har⟩ hS (hso.t.t.c hov) rfl
    have e1 : mx_trS rh (va_rf (f j.toNatClampNeg) :: r) = va_rf ((f j.toNatClampNeg).map rh) :: mx_trS rh r := by
      show mx_tr rh _ :: _ = _
      rw [mx_tr_rf]
    dsimp only at hk2
    rw [e1] at hk2
    have hcell : H[rh a]? = some (arrV (ka a) n (fun q => va_rf ((f q).map rh))) := hP a _ (mx_ws_at ho)
    exact W.aald (v := va_rf ((f j.toNatClampNeg).map rh)) (ty := ty) hx hb hcell ((har a ty _ ho).1 n (fun j => va_rf ((f j).map rh))) hty (fun q => by cases q) (by rw [arrV_size]; exact hj) (by rw [arrV_read _ _ hlt]) rfl rfl hd hk2
  case iastore =>
    dsimp only at hz
    replace hz := mx_ifk hz; obtain ⟨rfl, hz⟩ := hz
    replace hz := mx_via_el hz; obtain ⟨v, j, a, r, rfl, hz⟩ := hz
    replace hz := mx_gi_el hz; obtain ⟨x, hv, hz⟩ := hz
    cases hv
    replace hz := mx_ai_el hz; obtain ⟨ty, n, f, ho, hz⟩ := hz
    replace hz := mx_ifk hz; obtain ⟨⟨rfl, hj⟩, hz⟩ := hz
    cases hz
    refine va_iast hx hb (har.k hK ho) hP hD hS a 0 (mx_ws_at ho) rfl hj hd (fun H1 locs1 h1 h2 h3 => ?_)
    have e1 := mx_ws_set rh ka h a (.inl (.int, n, .inl (upd f j.toNatClampNeg x)))
    exact kk H1 locs1 ⟨e1 ▸ h1, e1 ▸ h2, hho.set trivial, har.setA ho⟩ h3 (by rw [List.length_set]; exact hso.t.t.t) (by rw [List.length_set])
  case bastore =>
    dsimp only at hz
    replace hz := mx_ifk hz; obtain ⟨rfl, hz⟩ := hz
    replace hz := mx_via_el hz; obtain ⟨v, j, a, r, rfl, hz⟩ := hz
    replace hz := mx_gi_el hz; obtain ⟨x, hv, hz⟩ := hz
    cases hv
    replace hz := mx_ai_el hz; obtain ⟨ty, n, f, ho, hz⟩ := hz
    replace hz := mx_ifk hz; obtain ⟨⟨hty, hj⟩, hz⟩ := hz
    cases hz
    rcases hty with rfl | rfl
    · refine va_bast hx hb (har.k hK ho) hP hD hS a 0 (mx_ws_at ho) rfl hj hd (fun H1 locs1 h1 h2 h3 => ?_)
      have e1 := mx_ws_set rh ka h a (.inl (.byte, n, .inl (upd f j.toNatClampNeg (vp_nar .byte x))))
      exact kk H1 locs1 ⟨e1 ▸ h1, e1 ▸ h2, hho.set trivial, har.setA ho⟩ h3 (by rw [List.length_set]; exact hso.t.t.t) (by rw [List.length_set])
    · refine va_zast hx hb (har.k hK ho) hP hD hS a 0 (mx_ws_at ho) rfl hj hd (fun H1 locs1 h1 h2 h3 => ?_)
      have e1 := mx_ws_set rh ka h a (.inl (.boolean, n, .inl (upd f j.toNatClampNeg (vp_nar .boolean x))))
      exact kk H1 locs1 ⟨e1 ▸ h1, e1 ▸ h2, hho.set trivial, har.setA ho⟩ h3 (by rw [List.length_set]; exact hso.t.t.t) (by rw [List.length_set])
  case aastore =>
    dsimp only at hz
    replace hz := mx_ifk hz; obtain ⟨rfl, hz⟩ := hz
    replace hz := mx_via_el hz; obtain ⟨v, j, a, r, rfl, hz⟩ := hz
    replace hz := mx_aq_el hz; obtain ⟨ty, n, f, ho, hz⟩ := hz
    replace hz := mx_ifk hz; obtain ⟨hj, hz⟩ := hz
    replace hz := mx_sv_el hz; obtain ⟨b, hfq, hz⟩ := hz
    cases hz
    have hlt : j.toNatClampNeg < n := Nat.not_le.mp fun q => hj (Or.inr q)
    have h0 : ¬ j < 0 := fun q => hj (Or.inl q)
    have hob : ∀ i, b = some i → i < h.length ∨ 1000000000 ≤ i := by
      intro i hi
      subst hi
      have hv0 := hso.hd
      rcases mx_fitq_el hfq with ⟨-, h3, -⟩ | ⟨b0, ci, fs, C, h3, h4, -⟩ | ⟨b0, x, h3, h4, -⟩
      · cases h3
      · cases h4; rw [h3] at hv0; exact hv0
      · cases h4; rw [h3] at hv0; exact hv0
    have hkk : ∀ (H1 : Heap) (locs1 : List Loc), va_P D cl ((mx_ws rh ka h).set a (rh a, .inl (ka a, n, .inr (.inr (.inr (.inr (va_up (fun q => (f q).map rh) j.toNatClampNeg (b.map rh)))))))) H1 → va_D A ((mx_ws rh ka h).set a (rh a, .inl (ka a, n, .inr (.inr (.inr (.inr (va_up (fun q => (f q).map rh) j.toNatClampNeg (b.map rh)))))))) → va_S A H0 H1 locs1 → W p l e R s m args below meth c H1 locs1 cells slots Q (F0 m (pc + 1) ls (mx_trS rh r)) := by
      intro H1 locs1 h1 h2 h3
      have e2 : (va_up (fun q => (f q).map rh) j.toNatClampNeg (b.map rh)) = (fun q => (va_up f j.toNatClampNeg b q).map rh) := by
        funext q
        by_cases hq : q = j.toNatClampNeg <;> simp [va_up, hq]
      have e1 := mx_ws_set rh ka h a (.inl (ty, n, .inr (.inr (.inr (.inr (va_up f j.toNatClampNeg b))))))
      rw [e2] at h1 h2
      refine kk H1 locs1 ⟨e1 ▸ h1, e1 ▸ h2, hho.set ?_, har.setA ho⟩ h3 (by rw [List.length_set]; exact hso.t.t.t) (by rw [List.length_set])
      intro q i hq
      by_cases hqj : q = j.toNatClampNeg
      · have e3 : va_up f j.toNatClampNeg b q = b := by simp [va_up, hqj]
        rw [e3] at hq
        exact hob i hq
      · have e3 : va_up f j.toNatClampNeg b q = f q := by simp [va_up, hqj]
        rw [e3] at hq
        exact (hho.at ho : ∀ j i, f j = some i → i < h.length ∨ 1000000000 ≤ i) q i hq
    have hcell : H[rh a]? = some (vp_cell (ka a) (n, .inr (.inr (.inr (.inr (fun q => (f q).map rh)))))) := hP a _ (mx_ws_at ho)
    have hfin : ∀ (H1 : Heap) (w : Value), w = va_rf (b.map rh) → H1[rh a]? = some ((vp_cell (ka a) (n, .inr (.inr (.inr (.inr (fun q => (f q).map rh)))))).setSlot j.toNatClampNeg w) → H1.size = H.size → (∀ q, q ≠ rh a → H1[q]? = H[q]?) → W p l e R s m args below meth c H1 (locs ++ [⟨rh a, j.toNatClampNeg⟩]) cells slots Q (F0 m (pc + 1) ls (mx_trS rh r)) := by
      intro H1 w hw e1 z1 oq
      subst hw
      refine hkk H1 _ (hP.set hD (mx_ws_at ho) ?_ oq) (hD.set (mx_ws_at ho)) (hS.put z1 oq (hD.2 a _ (mx_ws_at ho)))
      show H1[rh a]? = some (vp_cell _ _)
      rw [e1, vp_cell_q, vp_cell_q, arrV_store]
      congr 2
      funext q
      by_cases hq : q = j.toNatClampNeg
      · subst hq
        simp [updV, va_up]
      · simp [updV, va_up, hq]
    rcases mx_fitq_el hfq with ⟨rfl, rfl, ⟨C, rfl⟩ | rfl⟩ | ⟨b0, ci, vs, C, rfl, rfl, hbo, hcn, rfl⟩ | ⟨b0, x2, rfl, rfl, hbo, rfl⟩
    · exact va_astqN hx hb (har.k hK ho) hP hD hS a 0 (mx_ws_at ho) rfl hj hd (fun H1 locs1 h1 h2 h3 => hkk H1 locs1 h1 h2 h3)
    · exact mx_WN hx hb hcell ((har a _ _ ho).1 n (fun q => va_rf ((f q).map rh))) (fun h => by cases h) (by show ¬ (j < 0 ∨ (arrV _ _ _).slots.size ≤ _); rw [arrV_size]; exact hj) rfl rfl hd fun H1 e1 z1 oq => hfin H1 _ rfl e1 z1 oq
    · obtain ⟨kA, comp, k1, k2, k3, -⟩ := (har a _ _ ho).2.1
      obtain ⟨⟨C2, T2, N2⟩, hr', cellV, g1, g2, g3, -⟩ := hP b0 _ (mx_ws_at hbo)
      have hC := (hcl _ _ _ _ hr').2.2.2 C hcn
      subst hC
      have hcls := (hK.1 ci _ hr').2
      have hcomp : comp = D.1 ci := Option.some.inj (k3.symm.trans hcls.1)
      subst hcomp
      obtain ⟨kC, hkC, -⟩ := hcls.2
      exact W.aast hx hb hcell (fun q h => by cases h) (fun h => by cases h) k1 k2 rfl hkC ⟨h0, by show _ < (arrV _ _ _).slots.size; rw [arrV_size]; exact hlt⟩ g1 (fun q h => by rw [g3] at h; cases h) (by rw [g2]; exact hkC) (by rw [g2]; exact va_assign hcls) rfl rfl hd fun H1 e1 z1 oq => hfin H1 _ rfl e1 z1 oq
    · obtain ⟨kA, comp, k1, k2, k3⟩ := (har a _ _ ho).2.2
      have hvb := har b0 _ _ hbo
      have hcb : comp = ka b0 := Option.some.inj (k3.symm.trans hvb.2.1)
      subst hcb
      obtain ⟨-, kB, hkB, cmpB, hkindB⟩ := hvb.1 0 (fun _ => .null)
      have hkB : s.vm.classes[ka b0]? = some kB := hkB
      have g1 : H[rh b0]? = some (vp_cell (ka b0) (mx_trA rh x2)) := hP b0 _ (mx_ws_at hbo)
      have gc : (vp_cell (ka b0) (mx_trA rh x2)).cls = ka b0 ∧ (vp_cell (ka b0) (mx_trA rh x2)).vm = .none := by
        obtain ⟨nn, f | f | f | f | f⟩ := x2 <;> exact ⟨rfl, rfl⟩
      exact W.aast hx hb hcell (fun q h => by cases h) (fun h => by cases h) k1 k2 rfl hkB ⟨h0, by show _ < (arrV _ _ _).slots.size; rw [arrV_size]; exact hlt⟩ g1 (fun q h => by rw [gc.2] at h; cases h) (by rw [gc.1]; exact hkB) (by rw [gc.1]; exact mx_asg _ _) rfl rfl hd fun H1 e1 z1 oq => hfin H1 _ rfl e1 z1 oq
  case arraylength =>
    dsimp only at hz
    replace hz := mx_ifk hz; obtain ⟨rfl, hz⟩ := hz
    replace hz := mx_ra_el hz; obtain ⟨a, r, rfl, hz⟩ := hz
    replace hz := mx_av_el hz; obtain ⟨ty, x, ho, hz⟩ := hz
    cases hz
    exact va_alen hx hb (har.k hK ho) hP a 0 (mx_ws_at ho) rfl rfl hd (kk H locs ⟨hP, hD, hho, har⟩ hS hso.t.i rfl)
  all_goals (dsimp only at hz; cases hz)
end MXH
