/-- KINDS: where the kind ends that begins at a, before s -/
def fi_N (f : Nat → Int) (x : Int) : Nat → Nat → Nat
  | p, 0 => p
  | p, n + 1 => if f p = x then p else fi_N f x (p + 1) n
def kn_N (f : Nat → Int) (p s : Nat) : Option Nat := if p < s ∧ f p = 76 then (if fi_N f 59 (p + 1) (s - (p + 1)) < s ∧ nm_N (fun i => f (p + 1 + i)) (fi_N f 59 (p + 1) (s - (p + 1)) - (p + 1)) = true then some (fi_N f 59 (p + 1) (s - (p + 1)) + 1) else none) else none
def kp_N (f : Nat → Int) (p s : Nat) : Option Nat := if p < s ∧ f p = 73 then some (p + 1) else kn_N f p s
def kd_N (f : Nat → Int) (a s : Nat) : Option Nat := if a < s ∧ (f a = 73 ∨ f a = 90) then some (a + 1) else if a < s ∧ f a = 91 then kp_N f (a + 1) s else kp_N f a s
def op_E (o : Option Nat) : Int := match o with
  | some e => (e : Int)
  | none => -1
def op_L (o : Option Nat) (a : Nat) : Int := match o with
  | some e => (e : Int) - (a : Int)
  | none => 0
theorem byteAt_in {nn : Nat} {M : ms_M} {b : Nat} {B : Nat → Int} {n : Nat} (h : sr_I M b B n) {p : Nat} (hp : p < n) : qf_X3_byteAt nn b (p : Int) M = some (B p) := by
  rw [byteAt_ok h, if_pos (by omega)]
  congr 1
theorem fi_rg {f : Nat → Int} {x : Int} : ∀ (n p : Nat), p ≤ fi_N f x p n ∧ fi_N f x p n ≤ p + n := by
  intro n
  induction n with
  | zero => intro p; unfold fi_N; omega
  | succ n ih =>
    intro p; unfold fi_N
    split
    · omega
    · have := ih (p + 1); omega
theorem np_mask {i : Nat} {x y : Int} (h : x % 256 = y) (hr : -128 ≤ x ∧ x ≤ 127) : np_N i x = np_N i y := by
  by_cases q : 0 ≤ x
  · have : y = x := by omega
    rw [this]
  · have e1 : np_N i x = false := by
      unfold np_N lt_N
      simp only [Bool.or_eq_false_iff, Bool.and_eq_false_iff, decide_eq_false_iff_not]
      omega
    have e2 : np_N i y = false := by
      unfold np_N lt_N
      simp only [Bool.or_eq_false_iff, Bool.and_eq_false_iff, decide_eq_false_iff_not]
      omega
    rw [e1, e2]
theorem al_cong {p q : Nat → Bool} : ∀ (n i : Nat), (∀ j, i ≤ j → j < i + n → p j = q j) → al_N p i n = al_N q i n := by
  intro n
  induction n with
  | zero => intro i _; rfl
  | succ n ih =>
    intro i h
    unfold al_N
    rw [h i (by omega) (by omega), ih (i + 1) (fun j h1 h2 => h j (by omega) (by omega))]
theorem nm_mask {f g : Nat → Int} {len : Nat} (h : ∀ i, i < len → f i % 256 = g i ∧ (-128 ≤ f i ∧ f i ≤ 127)) : nm_N f len = nm_N g len := by
  unfold nm_N
  rw [al_cong len 0 (fun j _ h2 => np_mask (h j (by omega)).1 (h j (by omega)).2)]
theorem bk_111 {nn : Nat} (hn : 20 ≤ nn) {M : ms_M} {b : Nat} {B : Nat → Int} {n : Nat} (h : sr_I M b B n) {p q s : Nat} (hs : s ≤ n) (hp : p < q) (hq : q ≤ s) : qj_X3_behindKind_111 nn b (s : Int) (p : Int) (q : Int) M = some (if q < s ∧ nm_N (fun i => B (p + 1 + i)) (q - (p + 1)) = true then ((q : Int) + 1) else -1) := by
  obtain ⟨h1, h2, h3, h4, h5, h6, h7, h8⟩ := h
  unfold qj_X3_behindKind_111 ck_B
  by_cases w : q < s
  · rw [if_neg (by omega), if_pos h4]
    simp only [xl_eq]
    rw [oq_add_eq (by omega) (by omega) (by omega), oq_add_eq (by omega) (by omega) (by omega), cname_ok hn h5 h6 (by omega) (by omega), mx_svs]
    have e1 : nm_N (fun i => M (M b 0).toNat (((p : Int) + 1).toNat + i)) ((q : Int) - ((p : Int) + 1)).toNat = nm_N (fun i => B (p + 1 + i)) (q - (p + 1)) := by
      have e2 : ((q : Int) - ((p : Int) + 1)).toNat = q - (p + 1) := by omega
      have e3 : ((p : Int) + 1).toNat = p + 1 := by omega
      rw [e2, e3]
      exact nm_mask (fun i hi => h8 (p + 1 + i) (by omega))
    rw [e1]
    by_cases z : (p : Int) + 1 < (q : Int)
    · rw [decide_eq_true (show 0 ≤ (p : Int) + 1 ∧ (p : Int) + 1 < (q : Int) ∧ (q : Int) ≤ ln_I M (M b 0).toNat by omega)]
      cases hz : nm_N (fun i => B (p + 1 + i)) (q - (p + 1)) with
      | true => simp [bi_N, w]
      | false => simp [bi_N]
    · rw [decide_eq_false (show ¬ (0 ≤ (p : Int) + 1 ∧ (p : Int) + 1 < (q : Int) ∧ (q : Int) ≤ ln_I M (M b 0).toNat) by omega)]
      have : nm_N (fun i => B (p + 1 + i)) (q - (p + 1)) = false := by
        unfold nm_N; rw [decide_eq_false (show ¬ 1 ≤ q - (p + 1) by omega)]; simp
      rw [this]; simp [bi_N]
  · rw [if_pos (by omega), if_neg (by omega)]
theorem bk_88 {nn : Nat} {M : ms_M} {b : Nat} {B : Nat → Int} {n : Nat} (h : sr_I M b B n) {p s : Nat} (hs : s ≤ n) : ∀ (k m q : Nat), q + m = s → m < k → qw_X3_behindKind_88 nn k b (s : Int) (p : Int) (q : Int) M = qj_X3_behindKind_111 nn b (s : Int) (p : Int) ((fi_N B 59 q m : Nat) : Int) M := by
  have hn6 := h.2.1
  intro k
  induction k with
  | zero => intro m q _ h2; omega
  | succ k ih =>
    intro m q h1 h2
    cases m with
    | zero =>
      unfold qw_X3_behindKind_88 fi_N
      rw [if_pos (by omega)]
    | succ m =>
      unfold qw_X3_behindKind_88 fi_N
      rw [if_neg (show ¬ ((s : Int) ≤ (q : Int)) by omega), byteAt_in h (by omega), mx_svs]
      by_cases w : B q = 59
      · rw [if_pos w, if_pos w]
      · rw [if_neg w, if_neg w, xl_eq, oq_add_eq (by omega) (by omega) (by omega)]
        exact ih m (q + 1) (by omega) (by omega)
theorem bk_44 {nn : Nat} (hn : 6020 ≤ nn) {M : ms_M} {b : Nat} {B : Nat → Int} {n : Nat} (h : sr_I M b B n) {p s : Nat} (hp : p ≤ s) (hs : s ≤ n) : qj_X3_behindKind_44 nn b (s : Int) (p : Int) M = some (op_E (kp_N B p s)) := by
  have hn6 := h.2.1
  unfold qj_X3_behindKind_44 qj_X3_behindKind_62 kp_N kn_N
  by_cases w : p < s
  · rw [if_neg (show ¬ ((s : Int) ≤ (p : Int)) by omega), byteAt_in h (by omega), mx_svs]
    simp only [xl_eq]
    rw [oq_add_eq (by omega) (by omega) (by omega)]
    by_cases w1 : B p = 73
    · simp (disch := omega) only [if_pos, if_neg, not_true_eq_false, not_false_eq_true, ↓reduceIte]; rfl
    · by_cases w2 : B p = 76
      · have r := fi_rg (f := B) (x := 59) (s - (p + 1)) (p + 1)
        have z := bk_88 (nn := nn) h (p := p) (s := s) hs nn (s - (p + 1)) (p + 1) (by omega) (by omega)
        have e2 : ((p + 1 : Nat) : Int) = (p : Int) + 1 := by omega
        rw [e2] at z
        rw [bk_111 (by omega) h hs (by omega) (by omega)] at z
        by_cases w3 : fi_N B 59 (p + 1) (s - (p + 1)) < s ∧ nm_N (fun i => B (p + 1 + i)) (fi_N B 59 (p + 1) (s - (p + 1)) - (p + 1)) = true
        · rw [if_pos w3] at z
          simp only [if_pos w3]
          simp (disch := omega) only [if_pos, if_neg, z]; rfl
        · rw [if_neg w3] at z
          simp only [if_neg w3]
          simp (disch := omega) only [if_pos, if_neg, z]; rfl
      · simp (disch := omega) only [if_pos, if_neg, not_true_eq_false, not_false_eq_true, ↓reduceIte]; rfl
  · simp (disch := omega) only [if_pos, if_neg, not_true_eq_false, not_false_eq_true, ↓reduceIte]; rfl
/-- the class's behindKind -/
theorem behindKind_ok {nn : Nat} (hn : 6020 ≤ nn) {M : ms_M} {b : Nat} {B : Nat → Int} {n : Nat} (h : sr_I M b B n) {a s : Nat} (ha : a ≤ s) (hs : s ≤ n) : qf_X3_behindKind nn b (a : Int) (s : Int) M = some (op_E (kd_N B a s)) := by
  have hn6 := h.2.1
  unfold qf_X3_behindKind qj_X3_behindKind_14 qj_X3_behindKind_27 kd_N
  by_cases w : a < s
  · rw [if_neg (show ¬ ((s : Int) ≤ (a : Int)) by omega), byteAt_in h (by omega), mx_svs]
    simp only [xl_eq]
    rw [oq_add_eq (by omega) (by omega) (by omega)]
    have e2 : (a : Int) + 1 = ((a + 1 : Nat) : Int) := by omega
    by_cases w1 : B a = 73
    · simp (disch := omega) only [if_pos, if_neg, not_true_eq_false, not_false_eq_true, ↓reduceIte]; rfl
    by_cases w2 : B a = 90
    · simp (disch := omega) only [if_pos, if_neg, not_true_eq_false, not_false_eq_true, ↓reduceIte]; rfl
    by_cases w3 : B a = 91
    · simp (disch := omega) only [if_pos, if_neg, e2]
      exact bk_44 hn h (by omega) hs
    · simp (disch := omega) only [if_pos, if_neg]
      exact bk_44 hn h ha hs
  · simp (disch := omega) only [if_pos, if_neg, not_true_eq_false, not_false_eq_true, ↓reduceIte]
    exact bk_44 hn h ha hs
/-- the reference's kindBytes, in a row of ints at cell c -/
theorem kb_93 {nn : Nat} (hn : 20 ≤ nn) {M : ms_M} {c : Nat} (hc : c < cn_M M) (ht : ly_T c = 0) {a p q s : Nat} (hs : (s : Int) ≤ ln_I M c) (hs2 : s ≤ 100000) (hp : p < q) (hq : q ≤ s) (ha : a ≤ p) : qj_X13_kindBytes_93 nn c (a : Int) (s : Int) (p : Int) (q : Int) M = some (if q < s ∧ nm_N (fun i => M c (p + 1 + i)) (q - (p + 1)) = true then ((q : Int) + 1 - (a : Int)) else 0) := by
  unfold qj_X13_kindBytes_93
  simp only [xl_eq]
  by_cases w : q < s
  · rw [if_neg (by omega)]
    have e1 : oq_add (p : Int) 1 = (p : Int) + 1 := oq_add_eq (by omega) (by omega) (by omega)
    have e2 : oq_sub (oq_sub (q : Int) (p : Int)) 1 = (q : Int) - (p : Int) - 1 := by
      rw [oq_sub_eq (x := (q : Int)) (by omega) (by omega) (by omega), oq_sub_eq (by omega) (by omega) (by omega)]
    have e3 : oq_sub (oq_add (q : Int) 1) (a : Int) = (q : Int) + 1 - (a : Int) := by
      rw [oq_add_eq (by omega) (by omega) (by omega), oq_sub_eq (by omega) (by omega) (by omega)]
    rw [e1, e2, e3, mname_ok hn hc ht (by omega) (by omega), mx_svs]
    have e4 : ((p : Int) + 1).toNat = p + 1 := by omega
    have e5 : ((q : Int) - (p : Int) - 1).toNat = q - (p + 1) := by omega
    rw [e4, e5]
    cases hz : nm_N (fun i => M c (p + 1 + i)) (q - (p + 1)) with
    | true => simp [bi_N, w]
    | false => simp [bi_N]
  · rw [if_pos (by omega), if_neg (by omega)]
theorem kb_72 {nn : Nat} {M : ms_M} {c : Nat} (hc : c < cn_M M) (ht : ly_T c = 0) {a p s : Nat} (hs : (s : Int) ≤ ln_I M c) (hs2 : s ≤ 100000) : ∀ (k m q : Nat), q + m = s → m < k → qw_X13_kindBytes_72 nn k c (a : Int) (s : Int) (p : Int) (q : Int) M = qj_X13_kindBytes_93 nn c (a : Int) (s : Int) (p : Int) ((fi_N (M c) 59 q m : Nat) : Int) M := by
  intro k
  induction k with
  | zero => intro m q _ h2; omega
  | succ k ih =>
    intro m q h1 h2
    cases m with
    | zero =>
      unfold qw_X13_kindBytes_72 fi_N
      rw [if_pos (by omega)]
    | succ m =>
      unfold qw_X13_kindBytes_72 fi_N rd_S
      rw [if_neg (by omega), if_pos ⟨⟨hc, ht⟩, by omega, by omega⟩]
      dsimp only
      have e : ((q : Nat) : Int).toNat = q := by omega
      rw [e]
      by_cases w : M c q = 59
      · rw [if_pos w, if_pos w]
      · rw [if_neg w, if_neg w, xl_eq, oq_add_eq (by omega) (by omega) (by omega)]
        exact ih m (q + 1) (by omega) (by omega)
theorem kb_33 {nn : Nat} (hn : 100020 ≤ nn) {M : ms_M} {c : Nat} (hc : c < cn_M M) (ht : ly_T c = 0) {a p s : Nat} (hs : (s : Int) ≤ ln_I M c) (hs2 : s ≤ 100000) (hp : p ≤ s) (ha : a ≤ p) : qj_X13_kindBytes_33 nn c (a : Int) (s : Int) (p : Int) M = some (op_L (kp_N (M c) p s) a) := by
  unfold qj_X13_kindBytes_33 qj_X13_kindBytes_52 kp_N kn_N
  by_cases w : p < s
  · unfold rd_S
    have e : ((p : Nat) : Int).toNat = p := by omega
    have hr : (c < cn_M M ∧ ly_T c = 0) ∧ 0 ≤ (p : Int) ∧ (p : Int) < ln_I M c := ⟨⟨hc, ht⟩, by omega, by omega⟩
    have hle : ¬ ((s : Int) ≤ (p : Int)) := by omega
    simp only [if_neg hle, if_pos hr]
    rw [e]
    simp only [xl_eq]
    have e1 : oq_add (p : Int) 1 = (p : Int) + 1 := oq_add_eq (by omega) (by omega) (by omega)
    rw [e1]
    by_cases w1 : M c p = 73
    · simp (disch := omega) only [if_pos, if_neg, oq_sub_eq]; rfl
    · by_cases w2 : M c p = 76
      · have r := fi_rg (f := M c) (x := 59) (s - (p + 1)) (p + 1)
        have z := kb_72 (nn := nn) hc ht (a := a) (p := p) hs hs2 nn (s - (p + 1)) (p + 1) (by omega) (by omega)
        have e2 : ((p + 1 : Nat) : Int) = (p : Int) + 1 := by omega
        rw [e2] at z
        rw [kb_93 (by omega) hc ht hs hs2 (by omega) (by omega) ha] at z
        by_cases w3 : fi_N (M c) 59 (p + 1) (s - (p + 1)) < s ∧ nm_N (fun i => M c (p + 1 + i)) (fi_N (M c) 59 (p + 1) (s - (p + 1)) - (p + 1)) = true
        · rw [if_pos w3] at z
          simp only [if_pos w3]
          simp (disch := omega) only [if_pos, if_neg, z]; rfl
        · rw [if_neg w3] at z
          simp only [if_neg w3]
          simp (disch := omega) only [if_pos, if_neg, z]; rfl
      · simp (disch := omega) only [if_pos, if_neg]; rfl
  · simp (disch := omega) only [if_pos, if_neg]; rfl
theorem kindBytes_ok {nn : Nat} (hn : 100020 ≤ nn) {M : ms_M} {c : Nat} (hc : c < cn_M M) (ht : ly_T c = 0) {a s : Nat} (hs : (s : Int) ≤ ln_I M c) (hs2 : s ≤ 100000) (ha : a ≤ s) : qf_X13_kindBytes nn c (a : Int) (s : Int) M = some (op_L (kd_N (M c) a s) a) := by
  unfold qf_X13_kindBytes qj_X13_kindBytes_17 kd_N
  by_cases w : a < s
  · unfold rd_S
    have e : ((a : Nat) : Int).toNat = a := by omega
    have e1 : oq_add (a : Int) 1 = ((a + 1 : Nat) : Int) := by rw [oq_add_eq (by omega) (by omega) (by omega)]; omega
    have hr : (c < cn_M M ∧ ly_T c = 0) ∧ 0 ≤ (a : Int) ∧ (a : Int) < ln_I M c := ⟨⟨hc, ht⟩, by omega, by omega⟩
    have hle : ¬ ((s : Int) ≤ (a : Int)) := by omega
    simp only [if_neg hle, if_pos hr]
    rw [e]
    simp only [xl_eq]
    rw [e1]
    by_cases w2 : M c a = 90
    · have : (1 : Int) = ((a + 1 : Nat) : Int) - (a : Int) := by omega
      simp (disch := omega) only [if_pos, if_neg]
      show some (1 : Int) = some (((a + 1 : Nat) : Int) - (a : Int))
      rw [this]
    by_cases w3 : M c a = 91
    · simp (disch := omega) only [if_pos, if_neg]
      exact kb_33 hn hc ht hs hs2 (by omega) (by omega)
    by_cases w1 : M c a = 73
    · simp (disch := omega) only [if_pos, if_neg]
      rw [kb_33 hn hc ht hs hs2 (by omega) (by omega)]
      unfold kp_N; rw [if_pos ⟨w, w1⟩]
    · simp (disch := omega) only [if_pos, if_neg]
      exact kb_33 hn hc ht hs hs2 (by omega) (by omega)
  · simp (disch := omega) only [if_pos, if_neg]
    exact kb_33 hn hc ht hs hs2 (by omega) (by omega)
