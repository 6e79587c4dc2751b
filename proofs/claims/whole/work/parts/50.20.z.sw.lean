/- a large switch is read some entries at a time -/
theorem sw_b {α β : Type} {x : Reader DecodeError α} {f : α → Reader DecodeError β} {c : ByteArray} {p q : Nat} {a : α} (h : Reader.runAt x c p = .ok (a, q)) : Reader.runAt (x >>= f) c p = Reader.runAt (f a) c q := by
  show Except.bind (Reader.runAt x c p) (fun u => match u with | (a, s) => Reader.runAt (f a) c s) = _
  rw [h]; rfl
theorem sw_go {c : ByteArray} : ∀ (a b : Nat) (acc acc2 : Array Int) (p p2 : Nat), Reader.runAt (ε := DecodeError) (Reader.times.go Reader.s4 a acc) c p = .ok (acc2, p2) → Reader.runAt (ε := DecodeError) (Reader.times.go Reader.s4 (a + b) acc) c p = Reader.runAt (ε := DecodeError) (Reader.times.go Reader.s4 b acc2) c p2 := by
  intro a
  induction a with
  | zero => intro b acc acc2 p p2 e; cases e; rw [Nat.zero_add]
  | succ a ih =>
    intro b acc acc2 p p2 e
    rw [Nat.succ_add]
    have k : ∀ m, Reader.runAt (ε := DecodeError) (Reader.times.go Reader.s4 (m + 1) acc) c p = Except.bind (Reader.runAt (ε := DecodeError) Reader.s4 c p) (fun u => match u with | (v, s) => Reader.runAt (ε := DecodeError) (Reader.times.go Reader.s4 m (acc.push v)) c s) := fun m => rfl
    rw [k] at e
    refine (k (a + b)).trans ?_
    cases h : Reader.runAt (ε := DecodeError) Reader.s4 c p with
    | error x => rw [h] at e; exact nomatch (show Except.error x = Except.ok (acc2, p2) from e)
    | ok x => obtain ⟨v, s⟩ := x; rw [h] at e; exact ih b _ _ _ _ e
theorem sw_dec {c : ByteArray} {pc q r k l : Nat} {d lo hi : Int} {v : Array Int} (h1 : Reader.runAt (ε := DecodeError) Reader.u1 c pc = .ok (170, pc + 1)) (h2 : Reader.runAt Decoder.padding c (pc + 1) = .ok ((), q)) (h3 : Reader.runAt (ε := DecodeError) Reader.s4 c q = .ok (d, q + 4)) (h4 : Reader.runAt (ε := DecodeError) Reader.s4 c (q + 4) = .ok (lo, q + 8)) (h5 : Reader.runAt (ε := DecodeError) Reader.s4 c (q + 8) = .ok (hi, q + 12)) (le : lo ≤ hi) (hk : (hi - lo + 1).toNat = k) (h6 : Reader.runAt (ε := DecodeError) (Reader.times.go Reader.s4 k #[]) c (q + 12) = .ok (v, r)) (hl : r - pc = l) : decode c pc = .ok (.tableswitch d lo hi v, l) := by
  have t : Reader.runAt (Decoder.tableswitch pc) c (pc + 1) = .ok (.tableswitch d lo hi v, r) := by
    refine (sw_b h2).trans ?_
    refine (sw_b h3).trans ?_
    refine (sw_b h4).trans ?_
    refine (sw_b h5).trans ?_
    have h7 : Reader.runAt (ε := DecodeError) (Reader.times (hi - lo + 1).toNat Reader.s4) c (q + 12) = .ok (v, r) := by rw [hk]; exact h6
    dsimp only
    rw [if_pos le]
    exact (sw_b h7).trans rfl
  have e : Reader.runAt (Decoder.instr pc) c pc = .ok (.tableswitch d lo hi v, r) := (sw_b h1).trans t
  unfold decode
  rw [e, ← hl]; rfl
