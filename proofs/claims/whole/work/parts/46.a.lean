/-- THE START: the new objects keep to the ranges -/
def iv_C (h : mx_H) (c : Nat) : Bool := (List.range (ly_N c / 1000 + 1)).all (fun j => (List.range 1000).all (fun i => Nat.ble (ly_N c) (1000 * j + i) || decide ((vb_ c 0).1 ≤ rd_H h c (1000 * j + i) ∧ rd_H h c (1000 * j + i) ≤ (vb_ c 0).2)))
def iv_A (a n : Nat) : Bool := match in_0 with
  | some (_, _, h, _, _) => (List.range n).all (fun i => Nat.beq (ly_T (a + i)) 5 || ((decide (vb_ (a + i) 0 = (-2147483648, 2147483647)) && Nat.ble (ly_T (a + i)) 2) || iv_C h (a + i)))
  | none => false
def iv_R (h : mx_H) : Bool := (List.range 256).all (fun b => !(Nat.beq (kc_O b) 3) || (decide (0 ≤ rd_H h b 0) && (Nat.blt (rd_H h b 0).toNat 256 && (Nat.beq (ly_T (rd_H h b 0).toNat) 1 && decide (rd_H h b 1 ≤ (ly_N (rd_H h b 0).toNat : Int)))))) && ((List.range 8).all (fun k => decide (0 ≤ rd_H h 60 k) && Nat.beq (kc_O (rd_H h 60 k).toNat) 3) && (((decide (0 ≤ rd_H h 56 2) && Nat.beq (kc_O (rd_H h 56 2).toNat) 3) && ((decide (0 ≤ rd_H h 127 5) && Nat.beq (kc_O (rd_H h 127 5).toNat) 3) && (decide (0 ≤ rd_H h 143 18) && Nat.beq (kc_O (rd_H h 143 18).toNat) 3))) && (List.range 8).all (fun k => decide (rd_H h 43 k < 0) && decide (rd_H h 55 k < 0))))
def iv_O : Bool := match in_0 with
  | some (_, _, h, _, _) => (List.range 256).all (fun c => !(Nat.beq (ly_T c) 5) || (List.range 160).all (fun k => decide ((vb_ c k).1 ≤ rd_H h c k ∧ rd_H h c k ≤ (vb_ c k).2))) && iv_R h
  | none => false
theorem iv_o : iv_O = true := by decide +kernel
theorem iv_t : vt_.all (fun x => match x with
  | .inl _ => true
  | .inr l => Nat.ble l.length 160) = true := by decide +kernel
