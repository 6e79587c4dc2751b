/- VERIFY: what is asked of a method, as functions of the space -/
noncomputable def pr_I {α : Type} (P : Prop) (a b : α) : α := @ite α P (Classical.propDecidable P) a b
/-- the first below N of which P holds -/
noncomputable def fs_F (P : Nat → Prop) : Nat → Option Nat
  | 0 => none
  | N + 1 => match fs_F P N with
    | some p => some p
    | none => pr_I (P N) (some N) none
/-- an instruction begins at x; where a jump at p goes; a jump that goes to none -/
def BGi (D : Nat → Int) (L : Nat) (x : Int) : Prop := 0 ≤ x ∧ BGn D L x.toNat
def aim_S (D : Nat → Int) (p : Nat) : Int := (p : Int) + oq_s (oq_or (oq_shl (D (p + 1)) 8) (D (p + 2)))
def JBm (D : Nat → Int) (L p : Nat) : Prop := BGn D L p ∧ JMP (D p) ∧ ¬ BGi D L (aim_S D p)
/-- types that stand behind their count at p: where type j is, where they end; frame f of those counted at a -/
def tp_S (B : Nat → Int) (p : Nat) : Nat → Nat
  | 0 => p + 1
  | j + 1 => tp_S B p j + (if B (tp_S B p j) = 3 then 2 else 1)
def te_P (B : Nat → Int) (p : Nat) : Nat := tp_S B p (B p).toNat
def fp_S (B : Nat → Int) (a : Nat) : Nat → Nat
  | 0 => a + 1
  | f + 1 => te_P B (te_P B (fp_S B a f + 2))
/-- of method i: where frame f is, its place, how many; the first for place x -/
def fw_S (B : Nat → Int) (n i f : Nat) : Nat := fp_S B (mf_P B n i) f
def fv_S (B : Nat → Int) (n i f : Nat) : Int := ln_N B (fw_S B n i f)
def fn_S (B : Nat → Int) (n i : Nat) : Nat := (B (mf_P B n i)).toNat
noncomputable def fo_F (B : Nat → Int) (n i : Nat) (x : Int) : Option Nat := fs_F (fun f => fv_S B n i f = x) (fn_S B n i)
/-- the type told at p; local j and stack j of frame f, how many -/
noncomputable def tt_F (Bf : Nat → Nat → Int) (nf : Nat → Nat) (cnt : Int) (k p : Nat) : Int := if Bf k p = 0 then 304 else if Bf k p = 1 then 301 else if Bf k p = 2 then 300 else cq_F Bf nf cnt (Bf k) (nf k) (Bf k (p + 1))
def nl_S (B : Nat → Int) (n i f : Nat) : Int := B (fw_S B n i f + 2)
def nk_S (B : Nat → Int) (n i f : Nat) : Int := B (te_P B (fw_S B n i f + 2))
noncomputable def fl_F (Bf : Nat → Nat → Int) (nf : Nat → Nat) (cnt : Int) (k i f j : Nat) : Int := tt_F Bf nf cnt k (tp_S (Bf k) (fw_S (Bf k) (nf k) i f + 2) j)
noncomputable def fk_F (Bf : Nat → Nat → Int) (nf : Nat → Nat) (cnt : Int) (k i f j : Nat) : Int := tt_F Bf nf cnt k (tp_S (Bf k) (te_P (Bf k) (fw_S (Bf k) (nf k) i f + 2)) j)
/-- handler j of method i; how many -/
def hq_S (B : Nat → Int) (n i j : Nat) : Nat := mh_P B n i + 1 + 7 * j
def hn_S (B : Nat → Int) (n i : Nat) : Nat := (B (mh_P B n i)).toNat
/-- a type stands for another -/
def UNq (Bf : Nat → Nat → Int) (nf : Nat → Nat) (cnt x y : Int) : Prop := ∃ m : Nat, ch_F Bf nf cnt x m = y
def KFt (Bf : Nat → Nat → Int) (nf : Nat → Nat) (cnt x y : Int) : Prop := x = y ∨ (x = 300 ∧ 0 ≤ y ∧ y ≤ 200) ∨ ((0 ≤ x ∧ x < 16) ∧ (0 ≤ y ∧ y < 16) ∧ UNq Bf nf cnt x y) ∨ (y = 0 ∧ 100 ≤ x ∧ x ≤ 200) ∨ ((100 ≤ x ∧ x < 116) ∧ (100 ≤ y ∧ y < 116) ∧ UNq Bf nf cnt (x - 100) (y - 100))
def FTq (Bf : Nat → Nat → Int) (nf : Nat → Nat) (cnt x y : Int) : Prop := y = 304 ∨ KFt Bf nf cnt x y
/-- handler j is not right; frame f is not right -/
def HBd (Bf : Nat → Nat → Int) (nf : Nat → Nat) (cnt : Int) (k i j : Nat) : Prop := ¬ ((BGi (cd_S (Bf k) (nf k) i) (cl_N (Bf k) (nf k) i) (ln_N (Bf k) (hq_S (Bf k) (nf k) i j)) ∧ (BGi (cd_S (Bf k) (nf k) i) (cl_N (Bf k) (nf k) i) (ln_N (Bf k) (hq_S (Bf k) (nf k) i j + 2)) ∨ ln_N (Bf k) (hq_S (Bf k) (nf k) i j + 2) = (cl_N (Bf k) (nf k) i : Int)) ∧ ln_N (Bf k) (hq_S (Bf k) (nf k) i j) < ln_N (Bf k) (hq_S (Bf k) (nf k) i j + 2)) ∧ BGi (cd_S (Bf k) (nf k) i) (cl_N (Bf k) (nf k) i) (ln_N (Bf k) (hq_S (Bf k) (nf k) i j + 4)) ∧ (∃ f : Nat, fo_F (Bf k) (nf k) i (ln_N (Bf k) (hq_S (Bf k) (nf k) i j + 4)) = some f) ∧ KFt Bf nf cnt (cq_F Bf nf cnt (Bf k) (nf k) (Bf k (hq_S (Bf k) (nf k) i j + 6))) 1)
def FBd (Bf : Nat → Nat → Int) (nf : Nat → Nat) (cnt : Int) (k i f : Nat) : Prop := ¬ ((BGi (cd_S (Bf k) (nf k) i) (cl_N (Bf k) (nf k) i) (fv_S (Bf k) (nf k) i f) ∧ (if f = 0 then -1 else fv_S (Bf k) (nf k) i (f - 1)) < fv_S (Bf k) (nf k) i f) ∧ (nl_S (Bf k) (nf k) i f ≤ Bf k (ma_S (Bf k) (nf k) i + 4) ∧ nk_S (Bf k) (nf k) i f ≤ Bf k (ma_S (Bf k) (nf k) i + 3)) ∧ (∀ j : Nat, (j : Int) < nl_S (Bf k) (nf k) i f → ¬ fl_F Bf nf cnt k i f j = -1) ∧ ∀ j : Nat, (j : Int) < nk_S (Bf k) (nf k) i f → ¬ fk_F Bf nf cnt k i f j = -1)
/-- STATES: locals, stack, how many on it -/
abbrev ST3 : Type := (Nat → Int) × (Nat → Int) × Nat
def aPop (s : ST3) : Option (Int × ST3) := if s.2.2 = 0 then none else some (s.2.1 (s.2.2 - 1), (s.1, s.2.1, s.2.2 - 1))
def aU (mx : Int) (t : Int) (s : ST3) : Option ST3 := if (s.2.2 : Int) < mx then some (s.1, fun j => if j = s.2.2 then t else s.2.1 j, s.2.2 + 1) else none
noncomputable def aW (F : Int → Int → Prop) (t : Int) (s : ST3) : Option ST3 := (aPop s).bind (fun x => pr_I (F x.1 t) (some x.2) none)
def REf (x : Int) : Prop := x = 300 ∨ (0 ≤ x ∧ x ≤ 200)
noncomputable def aR (s : ST3) : Option (Int × ST3) := (aPop s).bind (fun x => pr_I (REf x.1) (some x) none)
def ARy (oi oc : Prop) (x : Int) : Prop := x = 300 ∨ (x = 200 ∧ oi) ∨ (¬ x = 200 ∧ oc ∧ 100 ≤ x ∧ x ≤ 200)
noncomputable def aA (oi oc : Prop) (s : ST3) : Option (Int × ST3) := (aPop s).bind (fun x => pr_I (ARy oi oc x.1) (some x) none)
noncomputable def aPs (F : Int → Int → Prop) (ty : Nat → Int) : Nat → ST3 → Option ST3
  | 0, s => some s
  | p + 1, s => (aW F (ty p) s).bind (aPs F ty p)
def aL (s : ST3) (a t : Int) : ST3 := (fun j => if (j : Int) = a then t else s.1 j, s.2.1, s.2.2)
/-- types of kinds: of a method's result, of its parameter j, of a field -/
noncomputable def rk_F (Bf : Nat → Nat → Int) (nf : Nat → Nat) (cnt : Int) (k : Nat) (t : Int) : Int := kq_F Bf nf cnt (Bf k) (ps_S (Bf k) (nf k) t (pm_S (Bf k) (nf k) t) + 1) (na_S (Bf k) (nf k) t + tl_S (Bf k) (nf k) t)
noncomputable def pk_F (Bf : Nat → Nat → Int) (nf : Nat → Nat) (cnt : Int) (k : Nat) (t : Int) (j : Nat) : Int := kq_F Bf nf cnt (Bf k) (ps_S (Bf k) (nf k) t j) (ps_S (Bf k) (nf k) t (j + 1))
noncomputable def fy_F (Bf : Nat → Nat → Int) (nf : Nat → Nat) (cnt : Int) (k : Nat) (t : Int) : Int := kq_F Bf nf cnt (Bf k) (na_S (Bf k) (nf k) t) (na_S (Bf k) (nf k) t + tl_S (Bf k) (nf k) t)
/-- the constant that an instruction names is right -/
def MBr (Bf : Nat → Nat → Int) (nf : Nat → Nat) (cnt : Int) (k : Nat) (op a : Int) : Prop := tg_S (Bf k) (nf k) a = 4 ∧ (0 ≤ cq_F Bf nf cnt (Bf k) (nf k) (pt_S (Bf k) (nf k) a 0) ∧ cq_F Bf nf cnt (Bf k) (nf k) (pt_S (Bf k) (nf k) a 0) < 16) ∧ ∃ (d : Int) (j : Nat), HFd Bf nf cnt k (pt_S (Bf k) (nf k) a 1) (if 182 ≤ op then 1 else 0) (cq_F Bf nf cnt (Bf k) (nf k) (pt_S (Bf k) (nf k) a 0)) d j ∧ TXq (Bf (d - 8).toNat) (nf (d - 8).toNat) (kt_S (Bf (d - 8).toNat) (nf (d - 8).toNat) j (if 182 ≤ op then 1 else 0)) (Bf k) (nf k) (pt_S (Bf k) (nf k) a 2) ∧ (182 ≤ op → Bf (d - 8).toNat (ma_S (Bf (d - 8).toNat) (nf (d - 8).toNat) j) = (if op = 184 then 1 else 0))
def CRt (Bf : Nat → Nat → Int) (nf : Nat → Nat) (cnt : Int) (k : Nat) (op a : Int) : Prop := (op = 18 → tg_S (Bf k) (nf k) a = 2) ∧ (op = 187 ∨ op = 189 ∨ op = 192 ∨ op = 193 → tg_S (Bf k) (nf k) a = 3 ∧ 0 ≤ cq_F Bf nf cnt (Bf k) (nf k) a ∧ cq_F Bf nf cnt (Bf k) (nf k) a < 16) ∧ (op = 188 → a = 10) ∧ (op = 180 ∨ op = 181 ∨ op = 182 ∨ op = 184 → MBr Bf nf cnt k op a)
/-- what an instruction makes of the state -/
def ARo (o : Int) : Prop := o = 96 ∨ o = 100 ∨ o = 104 ∨ o = 108 ∨ o = 112 ∨ o = 120 ∨ o = 122 ∨ o = 124 ∨ o = 126 ∨ o = 128 ∨ o = 130
noncomputable def ap_M (F : Int → Int → Prop) (mx rt : Int) (cl fy : Int) (pk : Nat → Int) (pm : Nat) (rk : Int) (op : Int) (s : ST3) : Option ST3 :=
  if op = 180 then (aW F cl s).bind (aU mx fy)
  else if op = 181 then (aW F fy s).bind (aW F cl)
  else if op = 182 then ((aPs F pk pm s).bind (aW F cl)).bind (fun s => if rk = 303 then some s else aU mx rk s)
  else (aPs F pk pm s).bind (fun s => if rk = 303 then some s else aU mx rk s)
noncomputable def ap_O (F : Int → Int → Prop) (mx : Int) (ca : Int) (op : Int) (s : ST3) : Option ST3 :=
  if op = 186 then aW F 301 s
  else if op = 187 then aU mx ca s
  else if op = 188 then (aW F 301 s).bind (aU mx 200)
  else if op = 189 then (aW F 301 s).bind (aU mx (100 + ca))
  else if op = 190 then (aA True True s).bind (fun x => aU mx 301 x.2)
  else if op = 191 then aW F 1 s
  else if op = 192 then (aR s).bind (fun x => aU mx ca x.2)
  else (aR s).bind (fun x => aU mx 301 x.2)
noncomputable def ap_R (F : Int → Int → Prop) (rt : Int) (op : Int) (s : ST3) : Option ST3 :=
  if op = 177 then (if rt = 303 then some s else none)
  else if op = 172 then (aW F 301 s).bind (fun s => if rt = 301 then some s else none)
  else (aW F rt s).bind (fun s => if rt = 301 ∨ rt = 303 then none else some s)
noncomputable def ap_A (F : Int → Int → Prop) (mx : Int) (op : Int) (s : ST3) : Option ST3 :=
  if op = 46 then ((aW F 301 s).bind (aA True False)).bind (fun x => aU mx 301 x.2)
  else if op = 50 then ((aW F 301 s).bind (aA False True)).bind (fun x => aU mx (if x.1 = 300 then 300 else x.1 - 100) x.2)
  else if op = 79 then (((aW F 301 s).bind (aW F 301)).bind (aA True False)).bind (fun x => some x.2)
  else if op = 83 then (((aR s).bind (fun x => aW F 301 x.2)).bind (aA False True)).bind (fun x => some x.2)
  else if op = 87 then (aPop s).bind (fun x => some x.2)
  else if op = 89 then (aPop s).bind (fun x => (aU mx x.1 x.2).bind (aU mx x.1))
  else if op = 116 then (aW F 301 s).bind (aU mx 301)
  else some s
noncomputable def ap_J (F : Int → Int → Prop) (op : Int) (s : ST3) : Option ST3 :=
  if op = 167 then some s
  else if op = 165 ∨ op = 166 then (aR s).bind (fun x => (aR x.2).bind (fun y => some y.2))
  else if op < 159 then aW F 301 s
  else (aW F 301 s).bind (aW F 301)
noncomputable def ap_L (F : Int → Int → Prop) (mx lc : Int) (op a : Int) (s : ST3) : Option ST3 :=
  if lc ≤ a then none
  else if op = 21 then pr_I (s.1 a.toNat = 301) (aU mx (s.1 a.toNat) s) none
  else if op = 25 then pr_I (REf (s.1 a.toNat)) (aU mx (s.1 a.toNat) s) none
  else if op = 54 then (aW F 301 s).bind (fun s => some (aL s a 301))
  else (aR s).bind (fun x => some (aL x.2 a x.1))
noncomputable def ap_F (Bf : Nat → Nat → Int) (nf : Nat → Nat) (cnt : Int) (k i : Nat) (op a : Int) (s : ST3) : Option ST3 :=
  if op = 1 then aU (Bf k (ma_S (Bf k) (nf k) i + 3)) 300 s
  else if (2 ≤ op ∧ op ≤ 8) ∨ op = 16 ∨ op = 18 then aU (Bf k (ma_S (Bf k) (nf k) i + 3)) 301 s
  else pr_I (ARo op) (((aW (FTq Bf nf cnt) 301 s).bind (aW (FTq Bf nf cnt) 301)).bind (aU (Bf k (ma_S (Bf k) (nf k) i + 3)) 301))
    (if op = 21 ∨ op = 25 ∨ op = 54 ∨ op = 58 then ap_L (FTq Bf nf cnt) (Bf k (ma_S (Bf k) (nf k) i + 3)) (Bf k (ma_S (Bf k) (nf k) i + 4)) op a s
    else pr_I (JMP op) (ap_J (FTq Bf nf cnt) op s)
      (if op < 172 then ap_A (FTq Bf nf cnt) (Bf k (ma_S (Bf k) (nf k) i + 3)) op s
      else if op < 180 then ap_R (FTq Bf nf cnt) (rk_F Bf nf cnt k (kt_S (Bf k) (nf k) i 1)) op s
      else if op ≤ 184 then ap_M (FTq Bf nf cnt) (Bf k (ma_S (Bf k) (nf k) i + 3)) (rk_F Bf nf cnt k (kt_S (Bf k) (nf k) i 1)) (cq_F Bf nf cnt (Bf k) (nf k) (pt_S (Bf k) (nf k) a 0)) (fy_F Bf nf cnt k (pt_S (Bf k) (nf k) a 2)) (pk_F Bf nf cnt k (pt_S (Bf k) (nf k) a 2)) (pm_S (Bf k) (nf k) (pt_S (Bf k) (nf k) a 2)) (rk_F Bf nf cnt k (pt_S (Bf k) (nf k) a 2)) op s
      else ap_O (FTq Bf nf cnt) (Bf k (ma_S (Bf k) (nf k) i + 3)) (cq_F Bf nf cnt (Bf k) (nf k) a) op s))
/-- the state fits frame f; its locals do; the state that frame f tells -/
def FLq (Bf : Nat → Nat → Int) (nf : Nat → Nat) (cnt : Int) (k i f : Nat) (s : ST3) : Prop := ∀ j : Nat, (j : Int) < nl_S (Bf k) (nf k) i f → FTq Bf nf cnt (s.1 j) (fl_F Bf nf cnt k i f j)
def FFt (Bf : Nat → Nat → Int) (nf : Nat → Nat) (cnt : Int) (k i f : Nat) (s : ST3) : Prop := FLq Bf nf cnt k i f s ∧ nk_S (Bf k) (nf k) i f = (s.2.2 : Int) ∧ ∀ j : Nat, j < s.2.2 → FTq Bf nf cnt (s.2.1 j) (fk_F Bf nf cnt k i f j)
noncomputable def tk_F (Bf : Nat → Nat → Int) (nf : Nat → Nat) (cnt : Int) (k i f : Nat) : ST3 := (fun j => if (j : Int) < nl_S (Bf k) (nf k) i f then fl_F Bf nf cnt k i f j else 304, fun j => fk_F Bf nf cnt k i f j, (nk_S (Bf k) (nf k) i f).toNat)
/-- handlers take what is thrown at p -/
def HDs (Bf : Nat → Nat → Int) (nf : Nat → Nat) (cnt : Int) (k i p : Nat) (s : ST3) (j : Nat) : Prop := ln_N (Bf k) (hq_S (Bf k) (nf k) i j) ≤ (p : Int) → (p : Int) < ln_N (Bf k) (hq_S (Bf k) (nf k) i j + 2) → ∃ f : Nat, fo_F (Bf k) (nf k) i (ln_N (Bf k) (hq_S (Bf k) (nf k) i j + 4)) = some f ∧ FLq Bf nf cnt k i f s ∧ nk_S (Bf k) (nf k) i f = 1 ∧ FTq Bf nf cnt (cq_F Bf nf cnt (Bf k) (nf k) (Bf k (hq_S (Bf k) (nf k) i j + 6))) (fk_F Bf nf cnt k i f 0)
/-- one instruction: the number that tells what is not right, or the state behind it -/
noncomputable def s3_F (Bf : Nat → Nat → Int) (nf : Nat → Nat) (cnt : Int) (k i p : Nat) (o : Option ST3) : Int ⊕ ST3 := match o with
  | none => .inl 12
  | some s => pr_I (JMP (cd_S (Bf k) (nf k) i p)) (match fo_F (Bf k) (nf k) i (aim_S (cd_S (Bf k) (nf k) i) p) with
    | none => .inl 12
    | some f => pr_I (FFt Bf nf cnt k i f s) (.inr s) (.inl 12)) (.inr s)
noncomputable def s2_F (Bf : Nat → Nat → Int) (nf : Nat → Nat) (cnt : Int) (k i p : Nat) (s : ST3) : Int ⊕ ST3 := pr_I (∀ j : Nat, j < hn_S (Bf k) (nf k) i → HDs Bf nf cnt k i p s j) (pr_I (CRt Bf nf cnt k (cd_S (Bf k) (nf k) i p) (cd_S (Bf k) (nf k) i (p + 1))) (s3_F Bf nf cnt k i p (ap_F Bf nf cnt k i (cd_S (Bf k) (nf k) i p) (cd_S (Bf k) (nf k) i (p + 1)) s)) (.inl 11)) (.inl 12)
noncomputable def s1_F (Bf : Nat → Nat → Int) (nf : Nat → Nat) (cnt : Int) (k i p : Nat) (rc : Int) (s : ST3) : Int ⊕ ST3 := match fo_F (Bf k) (nf k) i (p : Int) with
  | none => if rc = 0 then .inl 10 else s2_F Bf nf cnt k i p s
  | some f => if rc = 0 then s2_F Bf nf cnt k i p (tk_F Bf nf cnt k i f) else pr_I (FFt Bf nf cnt k i f s) (s2_F Bf nf cnt k i p (tk_F Bf nf cnt k i f)) (.inl 12)
/-- behind it the next is reached -/
def LSt (o : Int) : Int := if o = 167 ∨ o = 172 ∨ o = 176 ∨ o = 177 ∨ o = 191 then 0 else 1
noncomputable def sl_F (Bf : Nat → Nat → Int) (nf : Nat → Nat) (cnt : Int) (k i : Nat) : Nat → Nat → Int → ST3 → Option (Int × Int)
  | 0, _, _, _ => none
  | f + 1, p, rc, s => if cl_N (Bf k) (nf k) i ≤ p then (if rc = 0 then none else some (10, (cl_N (Bf k) (nf k) i : Int))) else match s1_F Bf nf cnt k i p rc s with
    | .inl c => some (c, (p : Int))
    | .inr s2 => sl_F Bf nf cnt k i f (p + (WD (cd_S (Bf k) (nf k) i p)).toNat) (LSt (cd_S (Bf k) (nf k) i p)) s2
noncomputable def bs_F (Bf : Nat → Nat → Int) (nf : Nat → Nat) (cnt : Int) (k i : Nat) : ST3 := (fun j => if Bf k (ma_S (Bf k) (nf k) i) = 0 then (if j = 0 then 8 + (k : Int) else if j - 1 < pm_S (Bf k) (nf k) (kt_S (Bf k) (nf k) i 1) then pk_F Bf nf cnt k (kt_S (Bf k) (nf k) i 1) (j - 1) else 304) else if j < pm_S (Bf k) (nf k) (kt_S (Bf k) (nf k) i 1) then pk_F Bf nf cnt k (kt_S (Bf k) (nf k) i 1) j else 304, fun _ => 304, 0)
/-- WHAT IS TOLD OF METHOD i OF CLASS k: nothing, or a number and where -/
noncomputable def mr_F (Bf : Nat → Nat → Int) (nf : Nat → Nat) (cnt : Int) (k i : Nat) : Option (Int × Int) := match fs_F (INo (cd_S (Bf k) (nf k) i) (cl_N (Bf k) (nf k) i)) (cl_N (Bf k) (nf k) i) with
  | some p => some (6, (p : Int))
  | none => match fs_F (JBm (cd_S (Bf k) (nf k) i) (cl_N (Bf k) (nf k) i)) (cl_N (Bf k) (nf k) i) with
    | some p => some (7, (p : Int))
    | none => match fs_F (HBd Bf nf cnt k i) (hn_S (Bf k) (nf k) i) with
      | some j => some (8, (j : Int))
      | none => match fs_F (FBd Bf nf cnt k i) (fn_S (Bf k) (nf k) i) with
        | some f => some (9, (f : Int))
        | none => sl_F Bf nf cnt k i (cl_N (Bf k) (nf k) i + 1) 0 1 (bs_F Bf nf cnt k i)
/-- one of these looks: none is bad, or the first is told by c -/
def FNx (P : Nat → Prop) (N : Nat) (c u pl : Int) : Prop := (u = 0 ∧ fs_F P N = none) ∨ (∃ p : Nat, u = c ∧ fs_F P N = some p ∧ pl = (p : Int))
section
variable {P : Nat → Prop} {N p : Nat} {D : Nat → Int} {L : Nat} {α : Type} {R : Prop} {a b : α}
theorem pr_t (h : R) : pr_I R a b = a := by unfold pr_I; exact if_pos h
theorem pr_f (h : ¬ R) : pr_I R a b = b := by unfold pr_I; exact if_neg h
theorem fs_z : (∀ q : Nat, q < N → ¬ P q) → fs_F P N = none := by
  induction N with
  | zero => intro _; rfl
  | succ N ih =>
    intro h
    have e := ih (fun q hq => h q (by omega))
    show (match fs_F P N with | some p => some p | none => pr_I (P N) (some N) none) = none
    rw [e]
    exact pr_f (h N (by omega))
theorem fs_s (hp : p < N) (h : P p) (hq : ∀ q : Nat, q < p → ¬ P q) : fs_F P N = some p := by
  induction N with
  | zero => exact absurd hp (by omega)
  | succ N ih =>
    show (match fs_F P N with | some p => some p | none => pr_I (P N) (some N) none) = some p
    by_cases e : p = N
    · rw [fs_z (fun q z => hq q (by omega))]
      rw [e] at h ⊢
      exact pr_t h
    · rw [ih (by omega)]
theorem fs_i : (fs_F P N = none ∧ ∀ q : Nat, q < N → ¬ P q) ∨ ∃ p : Nat, fs_F P N = some p ∧ p < N ∧ P p ∧ ∀ q : Nat, q < p → ¬ P q := by
  by_cases q : ∃ p : Nat, p < N ∧ P p
  · obtain ⟨p, p1, p2, p3⟩ := le_ast _ q
    exact .inr ⟨p, fs_s p1 p2 p3, p1, p2, p3⟩
  · have z : ∀ p : Nat, p < N → ¬ P p := fun p hp y => q ⟨p, hp, y⟩
    exact .inl ⟨fs_z z, z⟩
theorem fs_o (e : fs_F P N = some p) : p < N ∧ P p ∧ ∀ q : Nat, q < p → ¬ P q := by
  rcases fs_i (P := P) (N := N) with ⟨z, _⟩ | ⟨x, z, z1⟩
  · rw [z] at e; exact nomatch e
  · rw [z] at e
    have : x = p := Option.some.inj e
    rw [← this]; exact z1
theorem fs_e (e : fs_F P N = none) : ∀ q : Nat, q < N → ¬ P q := by
  rcases fs_i (P := P) (N := N) with ⟨_, z⟩ | ⟨x, z, _⟩
  · exact z
  · rw [z] at e; exact nomatch e
theorem bgn_lt (A : BGn D L p) : p < L := by
  obtain ⟨_, _, _, z⟩ := A
  exact z
theorem bgn_wd (E : IOk D L) (A : BGn D L p) : 0 < WD (D p) ∧ (p : Int) + WD (D p) ≤ (L : Int) := by
  obtain ⟨t, t1, t2⟩ := E
  obtain ⟨x, x1, x2⟩ := (bgn_iff t1 t2).1 A
  have := t1 x x1
  rw [x2] at this
  exact this.2
theorem wd_jmp {o : Int} (j : JMP o) : WD o = 3 := by
  unfold JMP at j
  rcases (show o = 153 ∨ o = 154 ∨ o = 159 ∨ o = 160 ∨ o = 161 ∨ o = 162 ∨ o = 163 ∨ o = 164 ∨ o = 165 ∨ o = 166 ∨ o = 167 by omega) with e | e | e | e | e | e | e | e | e | e | e
  all_goals (rw [e]; decide)
theorem pin_fn {u pl : Int} (A : (u = 0 ∧ IOk D L) ∨ (u = 6 ∧ ∃ p : Nat, INo D L p ∧ pl = (p : Int))) : FNx (INo D L) L 6 u pl := by
  rcases A with ⟨a, c⟩ | ⟨a, p, c, e⟩
  · exact .inl ⟨a, fs_z (fun q _ z => ino_ok z c)⟩
  · refine .inr ⟨p, a, fs_s ?_ c (fun q hq z => absurd (ino_u z c) (by omega)), e⟩
    obtain ⟨_, _, _, z, _⟩ := c
    exact z
end
