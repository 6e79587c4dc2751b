section
variable {nn : Nat} {h g r z w v x f R p : ms_M} {c d e k : Int} {ω : Int → ms_M} {N : Nat} {T U : Nat → ms_M} {i t : Int} {a : Nat}
/-- the frame of a called method: how it begins -/
theorem run_call (hn : 1000000 ≤ nn) (X : RTP nn g ω R i c k N T U t a p) {op n m b2 j2 y tc : Int} {L : Int → Int} {q : Int} (eo : op = ω c 238 (p 160 134 + bp (ω c) (p 160 134) a).toNat) (hop : op = 182 ∨ op = 184) (en : n = m + (if op = 184 then 0 else 1)) (ln : n ≤ T a 160 131) (hb2 : (8 ≤ b2 ∧ b2 < 8 + g 160 98) ∧ (0 ≤ j2 ∧ j2 < g 234 (b2 - 8).toNat)) (fl : ω (b2 - 8) 238 (g 235 (12 * (b2 - 8) + j2).toNat).toNat = (if op = 184 then 1 else 0)) (tx : TX (ω c) c y) (eq : EQT (ω (b2 - 8)) (b2 - 8) (kdT g ω (b2 - 8) 1 j2) (ω c) c y) (tk : TKV nn g c (ω c) y m L q tc) (ar : ∀ y : Int, 0 ≤ y → y < m → GOt nn (T a) (tp (T a) (m - 1 - y)) (L y)) (rc : ¬ op = 184 → CVt nn g R (4 + 2 * b2) (R 255 (60 * i + 30 + (R 254 i.toNat - 1 - m)).toNat)) (us : (tc = 0 ∧ POP (T a) n (U a)) ∨ (¬ tc = 0 ∧ PS1 (T a) n tc (U a))) (V : VS_ r) (F : RFr R r) (Nr : ∀ x l : Nat, ¬ (x = 160 ∧ l = 121) → r x l = R x l) (i59 : i < 59) : Ok_ (rd_A 60 254 i r fun v19 => xl (oq_sub v19 n) fun v20 => wr_A 60 254 i v20 r fun h21 => mx_sv (qf_X13_enter nn b2 j2 h21) fun u23 => qw_X13_call_228 nn nn n (60 * i + 30 + R 254 i.toNat - n) 0 u23) (SQ nn g ω R) := by
  have hi := X.hi
  have hd := X.hd
  have s := X.s
  have H := X.hp
  have XV := X.rx.1
  have XV0 := XV
  obtain ⟨⟨Vg, Sg⟩, O, CA, MO⟩ := XV
  have g98 := gF_160_98 Vg
  have At := X.at
  have m6 := tk.1
  have n01 : n = m ∨ n = m + 1 := by
    rcases hop with z | z
    · rw [z, if_neg (by decide)] at en; exact .inr en
    · rw [z, if_pos rfl] at en; exact .inl (by omega)
  have n7 : n ≤ 7 := by omega
  obtain ⟨p2, N2, T2, U2, m2, L2, q2, t2, bd2⟩ := mok_b (MO (b2 - 8) j2 (by omega) (by omega) hb2.2.1 hb2.2.2)
  have hc2 : 0 ≤ b2 - 8 ∧ b2 - 8 ≤ 7 := by omega
  have ck := X.ck
  have hc7 : 0 ≤ c ∧ c ≤ 7 := by omega
  have W2 := O (b2 - 8) (by omega) (by omega)
  have Wc := O c ck.1.1 ck.1.2
  have A2 := bd2.1.1
  have j12 : j2 < 12 := (wi_mt W2 hc2 hb2.2).1
  -- the kinds are alike
  have tkg : TKV nn g (b2 - 8) (ω (b2 - 8)) (kdT g ω (b2 - 8) 1 j2) m2 L2 q2 t2 := by
    have := bd2.2.2.1
    rw [kdT_c A2] at this
    exact tkv_c (agd_c (agd_sy A2)) this
  have tx2 : TX (ω (b2 - 8)) (b2 - 8) (kdT g ω (b2 - 8) 1 j2) := by
    obtain ⟨_, _, mt⟩ := wi_mt W2 hc2 hb2.2
    exact (mth_tx mt).2.1
  obtain ⟨q3, tk3⟩ := tkv_p W2 Wc hc2 hc7 tx2 tx eq tkg
  obtain ⟨em, eL, _, et⟩ := mkv_det tk tk3
  have efl : flg p2 (b2 - 8) j2 (ω (b2 - 8)) = (if op = 184 then 1 else 0) := by
    unfold flg
    rw [A2.1 235 _ (by decide) (by decide)]; exact fl
  have s01 : 1 - flg p2 (b2 - 8) j2 (ω (b2 - 8)) = n - m := by
    rw [efl]
    rcases hop with z | z
    · rw [z, if_neg (by decide)] at en ⊢; omega
    · rw [z, if_pos rfl] at en ⊢; omega
  refine ok_rd (by omega) (gA_254 V) ?_; intro v19 e19 _ _
  rw [Nr 254 _ (by omega)] at e19
  refine ok_sub (by omega) ?_; intro v20 e20
  refine ok_wA (by omega) ?_; intro h21 E21
  have V21 : VS_ h21 := by rw [E21]; exact wA_254 V (by omega)
  have N21 : ∀ x l : Nat, ¬ (x = 160 ∧ l = 121) → ¬ (x = 254 ∧ l = i.toNat) → h21 x l = R x l := fun x l y1 y2 => by rw [E21, up_n y2]; exact Nr x l y1
  have d21 : h21 160 149 = i + 1 := by rw [N21 160 149 (by omega) (by omega)]; exact hd
  refine ok_sv (g_enter hn V21 (b := b2) (j := j2) (by omega) (by omega) (by omega)) ?_; intro u23 P23
  obtain ⟨V23, N23, d23, ⟨f1, f2, f3, f4⟩, z23⟩ := P23
  rw [d21] at N23 d23 f1 f2 f3 f4 z23
  have NN : ∀ x l : Nat, ¬ (x = 160 ∧ (l = 121 ∨ l = 149)) → ¬ (x = 254 ∧ l = i.toNat) → ¬ ((x = 251 ∨ x = 252 ∨ x = 253 ∨ x = 254) ∧ l = (i + 1).toNat) → ¬ (x = 255 ∧ 60 * (i + 1) ≤ (l : Int) ∧ (l : Int) < 60 * (i + 1) + 60) → u23 x l = R x l := fun x l y1 y2 y3 y4 => by rw [N23 x l (by omega) y3 y4]; exact N21 x l (by omega) y2
  have e254 : u23 254 i.toNat = R 254 i.toNat - n := by rw [N23 254 _ (by omega) (by omega) (by omega), E21, up_s]; omega
  -- the arguments
  have Q : ∀ (jj : Nat) (l : Int) (f : ms_M), VS_ f → (∀ x y : Nat, ¬ (x = 255 ∧ 60 * (i + 1) ≤ (y : Int) ∧ (y : Int) < 60 * (i + 1) + 60) → f x y = u23 x y) → (0 ≤ l ∧ l ≤ n) → (∀ y : Int, 0 ≤ y → y < l → f 255 (60 * (i + 1) + y).toNat = R 255 (60 * i + 30 + R 254 i.toNat - n + y).toNat) → (∀ y : Int, n ≤ y → y < 60 → 0 ≤ y → f 255 (60 * (i + 1) + y).toNat = 0) → n - l < (jj : Int) → Ok_ (qw_X13_call_228 nn jj n (60 * i + 30 + R 254 i.toNat - n) l f) (SQ nn g ω R) := by
    intro jj
    induction jj with
    | zero => intro l f Vf Nf hl D Z hm; exfalso; omega
    | succ jj ih =>
      intro l f Vf Nf hl D Z hm
      unfold qw_X13_call_228
      refine ok_if (fun C => ?_) (fun C => ?_)
      · -- the new frame stands
        have Nall : ∀ x l : Nat, ¬ (x = 160 ∧ (l = 121 ∨ l = 149)) → ¬ (x = 254 ∧ l = i.toNat) → ¬ ((x = 251 ∨ x = 252 ∨ x = 253 ∨ x = 254) ∧ l = (i + 1).toNat) → ¬ (x = 255 ∧ 60 * (i + 1) ≤ (l : Int) ∧ (l : Int) < 60 * (i + 1) + 60) → f x l = R x l := fun x l y1 y2 y3 y4 => by rw [Nf x l y4]; exact NN x l y1 y2 y3 y4
        have Ff : RFr R f := fun x l y1 y2 => Nall x l (by omega) (by omega) (by omega) (by omega)
        have K : HSM R f := ⟨fun x y1 y2 => funext fun l => Nall x l (by omega) (by omega) (by omega) (by omega), Nall 160 141 (by omega) (by omega) (by omega) (by omega), Nall 160 142 (by omega) (by omega) (by omega) (by omega)⟩
        have hx := hsm_x K
        have Lk : LWK R i f := ⟨fun y y1 y2 => ⟨Nall 251 _ (by omega) (by omega) (by omega) (by omega), Nall 252 _ (by omega) (by omega) (by omega) (by omega), Nall 253 _ (by omega) (by omega) (by omega) (by omega), Nall 254 _ (by omega) (by omega) (by omega) (by omega)⟩, fun y y1 y2 => Nall 255 _ (by omega) (by omega) (by omega) (by omega)⟩
        have df : f 160 149 = i + 2 := by rw [Nf 160 149 (by omega), d23]; omega
        refine ok_ret ⟨Vf, Ff, fun _ => ⟨by omega, hpo_s K H, t2, ?_, ?_⟩⟩
        · rw [df, show i + 2 - 1 = i + 1 by omega]
          have nd0 := (bd2.2.2.2.2.2.2.2 0 bd2.2.2.2.1.2).1
          have ini0 := bd2.2.2.2.2.1
          have loc2 := bd2.2.2.2.1.1
          have A3 := agd_sy (agd_tr A2 (nfl_agd nd0.1))
          have e129 : T2 0 160 129 = p2 160 129 := nd0.1 160 129 (by decide) (by decide)
          have m30 := mbd_129 bd2
          refine ⟨b2 - 8, j2, N2, T2, U2, 0, p2, ⟨⟨m2, L2, q2, bd2⟩, ⟨by omega, hb2.2⟩, ⟨?_, ?_⟩, bd2.2.2.2.1.2, ?_⟩, fun y y1 y2 => ?_, ?_, fun y y1 y2 => ?_⟩
          · rw [Nf 251 _ (by omega), f1]; omega
          · rw [Nf 252 _ (by omega), f2]
          · rw [Nf 253 _ (by omega), f3]; rfl
          · have gl := gts_c A3 (nd0.2.1 y y1 (by omega))
            have go := got_c (agd_sy A2) (ini0.1 y y1 y2)
            rw [s01] at go
            refine cv_x hx ?_
            unfold ini at go
            by_cases ys : y < n - m
            · rw [if_pos ys] at go
              rw [D y y1 (by omega)]
              have o2 : ¬ op = 184 := fun z => by rw [z, if_pos rfl] at en; omega
              have rr := rc o2
              rw [show 60 * i + 30 + R 254 i.toNat - n + y = 60 * i + 30 + (R 254 i.toNat - 1 - m) by omega]
              rw [show 8 + (b2 - 8) = b2 by omega] at go
              exact cv_goes hn XV0 ⟨by omega, by omega⟩ gl go rr
            · rw [if_neg ys] at go
              by_cases ym : y < n - m + m2
              · rw [if_pos ym] at go
                rw [D y y1 (by omega)]
                have yy : 0 ≤ y - (n - m) ∧ y - (n - m) < m := by omega
                rw [← eL (y - (n - m)) yy.1 yy.2] at go
                have gL : GTs g (L (y - (n - m))) := by
                  have RL : ∀ (l : Nat) (i' p' q' : Int), PVn nn g c (ω c 238) L l i' p' q' → ∀ u : Int, i' ≤ u → u < i' + l → GTs g (L u) := by
                    intro l
                    induction l with
                    | zero => intro i' p' q' _ u u1 u2; exfalso; omega
                    | succ l ihl =>
                      intro i' p' q' Y u u1 u2
                      obtain ⟨e', ⟨x1, x2⟩, x3⟩ := Y
                      by_cases u0 : u = i'
                      · rw [u0]; exact ktv_rg Vg x2
                      · exact ihl _ _ _ x3 u (by omega) (by omega)
                  exact RL _ 0 _ _ tk.2.1 _ yy.1 (by omega)
                have cvv := rtp_go hn X (y := m - 1 - (y - (n - m))) (by omega) (by omega) (ar _ yy.1 yy.2) gL
                rw [show 60 * i + 30 + (R 254 i.toNat - 1 - (m - 1 - (y - (n - m)))) = 60 * i + 30 + R 254 i.toNat - n + y by omega] at cvv
                exact cv_goes hn XV0 gL gl go cvv
              · rw [if_neg ym] at go
                rw [got_f0 go]
                exact cv_t
          · rw [Nf 254 _ (by omega), f4, ini0.2]
          · rw [ini0.2] at y2; exfalso; omega
        · rw [df, show (i + 2 - 1).toNat = i.toNat + 1 by omega]
          refine ⟨t, ⟨c, k, N, T, U, a, p, n, ?_, ⟨by rw [← eo]; exact hop, by rw [← et]; exact us⟩, fun y y1 y2 => ?_, ?_, fun y y1 y2 => ?_⟩, stk_k _ _ (by rw [show ((i.toNat : Nat) : Int) = i by omega]; exact Lk) hx X.st⟩
          · rw [show ((i.toNat : Nat) : Int) = i by omega]
            obtain ⟨b1, b2', b3, b4, b5⟩ := X.2.1
            exact ⟨b1, b2', ⟨by rw [Nall 251 _ (by omega) (by omega) (by omega) (by omega)]; exact b3.1, by rw [Nall 252 _ (by omega) (by omega) (by omega) (by omega)]; exact b3.2⟩, b4, by rw [Nall 253 _ (by omega) (by omega) (by omega) (by omega)]; exact b5⟩
          · rw [show ((i.toNat : Nat) : Int) = i by omega, Nall 255 _ (by omega) (by omega) (by omega) (by omega)]
            exact cv_x hx (X.cf.1 y y1 y2)
          · rw [show ((i.toNat : Nat) : Int) = i by omega, Nf 254 _ (by omega), e254]; omega
          · rw [show ((i.toNat : Nat) : Int) = i by omega, Nall 255 _ (by omega) (by omega) (by omega) (by omega)]
            exact cv_x hx (X.cf.2.2 y y1 (by omega))
      · have df : f 160 149 = i + 2 := by rw [Nf 160 149 (by omega), d23]; omega
        rw [df]
        refine ok_sub (by omega) ?_; intro v3 e3
        refine ok_mul (by omega) ?_; intro v4 e4
        refine ok_add (by omega) ?_; intro v5 e5
        refine ok_add (by omega) ?_; intro v7 e7
        refine ok_rd (by omega) (gA_255 Vf) ?_; intro v8 e8 b1 b2
        refine ok_wA (by omega) ?_; intro h9 E9
        refine ok_add (by omega) ?_; intro v10 e10
        rw [e10]
        have e8' : v8 = R 255 (60 * i + 30 + R 254 i.toNat - n + l).toNat := by
          rw [e8, Nf 255 _ (by omega), NN 255 _ (by omega) (by omega) (by omega) (by omega), show v7 = 60 * i + 30 + R 254 i.toNat - n + l by omega]
        refine ih (l + 1) h9 (by rw [E9]; exact wA_255 Vf ⟨b1, b2⟩) (fun x y y1 => ?_) (by omega) (fun y y1 y2 => ?_) (fun y y1 y2 y3 => ?_) (by omega)
        · rw [E9, up_n (by omega)]; exact Nf x y y1
        · by_cases y0 : y = l
          · rw [y0, show 60 * (i + 1) + l = v5 by omega, E9, up_s]; exact e8'
          · rw [E9, up_n (by omega)]; exact D y y1 (by omega)
        · rw [E9, up_n (by omega)]; exact Z y y1 y2 y3
  exact Q nn 0 u23 V23 (fun _ _ _ => rfl) (by omega) (fun y y1 y2 => by exfalso; omega) (fun y y1 y2 y3 => z23 y y3 y2) (by omega)
/-- calls -/
theorem st_call (hn : 1000000 ≤ nn) (X : RTP nn g ω R i c k N T U t a p) {op o : Int} (eo : op = ω c 238 (p 160 134 + bp (ω c) (p 160 134) a).toNat) (W : WN nn (T a) ω c (ω c) t op o (U a)) (ho : op = 182 ∨ op = 184) : Ok_ (mx_sv (qf_X13_call nn op o R) fun u24 => some u24) (SQ nn g ω R) := by
  have V := X.vs
  have hi := X.hi
  have hd := X.hd
  have s := X.s
  have H := X.hp
  have XV := X.rx.1
  have XV0 := XV
  have AE := X.rx.2.1
  obtain ⟨⟨Vg, Sg⟩, O, CA, MO⟩ := XV
  have g98 := gF_160_98 Vg
  have g141 := gF_160_141 V
  have ck := X.ck
  have e1 := X.e1
  have hc7 : 0 ≤ c ∧ c ≤ 7 := by omega
  have P0 := rpo_rf V hi
  have At := X.at
  have Wg := O c ck.1.1 ck.1.2
  have WR := wi_e AE ck.1 Wg
  have g3 := gF_160_113 Wg.1
  have sv : ∀ y : Option ms_M, (mx_sv y fun u => some u) = y := fun y => by cases y <;> rfl
  rw [sv]
  obtain ⟨u, bb, j, m, L, q, tc, ⟨mr0, fl0⟩, tk0, ar, us⟩ := wnx_22 W ho
  have mr := mrf_c At mr0
  have tk := tkv_c (agd_c At) tk0
  have fl : ω (bb - 8) 238 (g 235 (12 * (bb - 8) + j).toNat).toNat = (if op = 184 then 1 else 0) := by rw [agd_f At (x := 235) (by decide) (by decide)]; exact fl0
  have mrr := mr
  obtain ⟨st4, ⟨ub, ct⟩, hs, hbb, hj, eqt⟩ := mr
  have ckk := (Wg.2.1.2.2 o st4.1.1 st4.1.2).2 st4.2
  have cl : CL (ω c) c (ω c 238 (pl (ω c) c o + 1 + 0).toNat) := by rw [show pl (ω c) c o + 1 + 0 = pl (ω c) c o + 1 by omega]; exact ckk.1
  have tx1 : TX (ω c) c (ω c 238 (pl (ω c) c o + 1 + 1).toNat) := by rw [show pl (ω c) c o + 1 + 1 = pl (ω c) c o + 2 by omega]; exact ckk.2.1.1
  have tx2 : TX (ω c) c (ω c 238 (pl (ω c) c o + 1 + 2).toNat) := by rw [show pl (ω c) c o + 1 + 2 = pl (ω c) c o + 3 by omega]; exact ckk.2.2.1
  obtain ⟨a1, a2, a3, a4, a5⟩ := wi_tx WR hc7 tx2
  -- how many parameters
  have Wb := O (bb - 8) (by omega) (by omega)
  have mkn : MKn (ω c 238) m.toNat (pl (ω c) c (ω c 238 (pl (ω c) c o + 1 + 2).toNat) + 2) (pl (ω c) c (ω c 238 (pl (ω c) c o + 1 + 2).toNat) + 2 + ω c 238 (pl (ω c) c (ω c 238 (pl (ω c) c o + 1 + 2).toNat) + 1).toNat) := by
    refine ⟨?_, q, pv_pr _ _ _ _ tk.2.1, tk.2.2.1, tk.2.2.2.1⟩
    obtain ⟨_, _, mt⟩ := wi_mt Wb (by omega) hj
    obtain ⟨mm, _, k40, _⟩ := (mth_tx mt).2.2.2.2.1 rfl
    have e0 := eqt.2 0 (by omega) (by
      obtain ⟨_, _, _, b4, _⟩ := wi_tx Wb (by omega) (mth_tx mt).2.1
      have : kdT g ω (bb - 8) 1 j = ω (bb - 8) 238 (g 235 (12 * (bb - 8) + j).toNat + 2).toNat := rfl
      rw [this]; omega)
    have ek : kdT g ω (bb - 8) 1 j = ω (bb - 8) 238 (g 235 (12 * (bb - 8) + j).toNat + 2).toNat := rfl
    rw [ek] at e0
    rw [show pl (ω c) c (ω c 238 (pl (ω c) c o + 1 + 2).toNat) + 2 + 0 = pl (ω c) c (ω c 238 (pl (ω c) c o + 1 + 2).toNat) + 2 by omega, show pl (ω (bb - 8)) (bb - 8) (ω (bb - 8) 238 (g 235 (12 * (bb - 8) + j).toNat + 2).toNat) + 2 + 0 = pl (ω (bb - 8)) (bb - 8) (ω (bb - 8) 238 (g 235 (12 * (bb - 8) + j).toNat + 2).toNat) + 2 by omega] at e0
    rw [← e0]; exact k40
  have eb : EB (ω c 238) (R 226) (pl (ω c) c (ω c 238 (pl (ω c) c o + 1 + 2).toNat) + 2) (6000 * c + (pl (ω c) c (ω c 238 (pl (ω c) c o + 1 + 2).toNat) + 2)) (ω c 238 (pl (ω c) c (ω c 238 (pl (ω c) c o + 1 + 2).toNat) + 1).toNat) := fun l l0 l1 => by
    rw [show 6000 * c + (pl (ω c) c (ω c 238 (pl (ω c) c o + 1 + 2).toNat) + 2) + l = 6000 * c + (pl (ω c) c (ω c 238 (pl (ω c) c o + 1 + 2).toNat) + 2 + l) by omega, WR.2.2.1 _ (by omega) (by omega)]
  have mkR := mkn_p eb mkn
  have m6 := tk.1
  unfold qf_X13_call
  rw [hd]
  refine ok_sub (by omega) ?_; intro v52 e52
  rw [show v52 = i by omega]
  refine ok_rd (by omega) (gA_251 V) ?_; intro v53 e53 _ _
  refine ok_sub (by omega) ?_; intro v54 e54
  rw [show v54 = c by omega]
  refine ok_mul (by omega) ?_; intro v55 e55
  refine ok_mul (by omega) ?_; intro v57 e57
  refine ok_sv (g_part X.rx hd hi ck.1 e1.1 st4 (by decide)) ?_; intro u59 P59
  rw [P59.1]
  refine ok_add (by omega) ?_; intro v60 e60
  refine ok_rd (by omega) (gA_228 V) ?_; intro v61 e61 _ _
  rw [e60, e57, a2] at e61
  refine ok_add (by omega) ?_; intro v62 e62
  refine ok_add (by omega) ?_; intro v64 e64
  refine ok_add (by omega) ?_; intro v66 e66
  refine ok_rd (by omega) (gA_226 V) ?_; intro v67 e67 _ _
  rw [show v66 = 6000 * c + pl (ω c) c (ω c 238 (pl (ω c) c o + 1 + 2).toNat) + 1 by omega, a5] at e67
  rw [show v64 = 6000 * c + (pl (ω c) c (ω c 238 (pl (ω c) c o + 1 + 2).toNat) + 2) by omega, e67]
  refine ok_sv (rn_pars hn V (by omega) mkR) ?_; intro u68 P68
  have q68 : u68 = m := by rw [P68]; omega
  rw [q68]
  -- the rest: n values
  have C72 : ∀ s0 : Int, s0 = (if op = 184 then 0 else 1) → Ok_ (qj_X13_call_72 nn op o c s0 m R) (SQ nn g ω R) := fun s0 es => by
    have usn : ∃ n : Int, n = m + s0 ∧ n ≤ T a 160 131 ∧ ((tc = 0 ∧ POP (T a) n (U a)) ∨ (¬ tc = 0 ∧ PS1 (T a) n tc (U a))) ∧ (¬ op = 184 → GOt nn (T a) (tp (T a) m) (4 + 2 * u)) := by
      rcases us with ⟨z1, z2⟩ | ⟨z1, z2, z3⟩
      · rw [if_pos z1] at es
        refine ⟨m, by omega, ?_, z2, fun z => absurd z1 z⟩
        rcases z2 with z2 | z2
        · exact z2.2.2.2.2
        · exact z2.2.2.2.1.2
      · rw [if_neg z1] at es
        refine ⟨m + 1, by omega, ?_, z3, fun _ => z2⟩
        rcases z3 with z3 | z3
        · exact z3.2.2.2.2
        · exact z3.2.2.2.1.2
    obtain ⟨n, en, ln, usn, gou⟩ := usn
    have s1 : s0 = 0 ∨ s0 = 1 := by
      rw [es]
      by_cases z : op = 184
      · rw [if_pos z]; exact .inl rfl
      · rw [if_neg z]; exact .inr rfl
    unfold qj_X13_call_72
    rw [hd]
    refine ok_add (by omega) ?_; intro v26 e26
    refine ok_sub (by omega) ?_; intro v28 e28
    rw [show v28 = i by omega, show v26 = n by omega]
    refine ok_mul (by omega) ?_; intro v29 e29
    refine ok_add (by omega) ?_; intro v30 e30
    refine ok_rd (by omega) (gA_254 V) ?_; intro v32 e32 _ _
    refine ok_add (by omega) ?_; intro v33 e33
    refine ok_sub (by omega) ?_; intro v34 e34
    rw [show v34 = 60 * i + 30 + R 254 i.toNat - n by omega]
    refine ok_sv (g_part X.rx hd hi ck.1 e1.1 st4 (by decide)) ?_; intro u36 P36
    rw [P36.1]
    refine ok_sv (g_classIn X.rx hd hi ck.1 e1.1 cl ct) ?_; intro u38 P38
    rw [P38]
    have C168 : ∀ D b2 j2 : Int, (0 ≤ D ∧ D < 8 + g 160 98) → HSn nn g ω (ω c) c (ω c 238 (pl (ω c) c o + 1 + 1).toNat) 1 17 D b2 j2 → ((8 ≤ b2 ∧ b2 < 8 + g 160 98) ∧ (0 ≤ j2 ∧ j2 < mem g (b2 - 8) 1)) → EQT (ω (b2 - 8)) (b2 - 8) (kdT g ω (b2 - 8) 1 j2) (ω (bb - 8)) (bb - 8) (kdT g ω (bb - 8) 1 j) → ω (b2 - 8) 238 (g 235 (12 * (b2 - 8) + j2).toNat).toNat = (if op = 184 then 1 else 0) → (¬ op = 184 → CVt nn g R (4 + 2 * b2) (R 255 (60 * i + 30 + (R 254 i.toNat - 1 - m)).toNat)) → Ok_ (qj_X13_call_168 nn o c n i (60 * i + 30 + R 254 i.toNat - n) D R) (SQ nn g ω R) := fun D b2 j2 hD hs2 hb2 eq2 fl2 rc => by
      unfold qj_X13_call_168
      refine ok_sv (g_part X.rx hd hi ck.1 e1.1 st4 (by decide)) ?_; intro u13 P13
      rw [P13.1]
      refine ok_sv (rt_holder hn V X.rx.2.2.2 (om_e AE O) hc7 WR (f := D) (s := 1) (by rw [AE.1]; omega) tx1) ?_; intro u15 P15
      obtain ⟨j3, hs3, P15⟩ := P15
      have hs4 := hsn_e hn XV0 AE V _ _ _ _ (by omega) hs3
      obtain ⟨eb2, ej2⟩ := hsn_det _ _ _ _ _ _ hs2 hs4
      have ej2 := ej2 (by omega)
      have p15 : u15.2 = up_M R 160 121 j3 := by
        rcases P15 with z | z
        · exfalso; omega
        · exact z.2.2
      have j12 : j2 < 12 := (wi_mt (O (b2 - 8) (by omega) (by omega)) (by omega) hb2.2).1
      have V15 : VS_ u15.2 := by rw [p15]; exact wF_160_121 V (by omega)
      have N15 : ∀ x y : Nat, ¬ (x = 160 ∧ y = 121) → u15.2 x y = R x y := fun x y z => by rw [p15, up_n z]
      have f121 : u15.2 160 121 = j2 := by rw [p15, up_s]; omega
      have F15 : RFr R u15.2 := fun x y z1 z2 => N15 x y (by omega)
      rw [N15 160 149 (by omega), hd, f121, ← eb2]
      refine ok_if (fun d60 => ?_) (fun d60 => ?_)
      · exact run_call hn X eo ho (n := n) (by rw [en, es]) ln hb2 fl2 tx2 (eqt_tr eq2 eqt) tk ar rc usn V15 F15 N15 (by omega)
      · refine ok_xl ?_; intro h24 E24
        refine ok_ret ⟨by rw [E24]; exact wF_160_138 V15 (by omega), rfr_tr F15 (fun x l y1 y2 => by rw [E24, up_n (by omega)]), fun z => ?_⟩
        rw [E24, up_s] at z
        exact absurd z (by decide)
    refine ok_if (fun n182 => ?_) (fun y182 => ?_)
    · have o4 : op = 184 := by omega
      exact C168 u bb j (by omega) hs ⟨hbb, hj⟩ eqt_rf fl (fun z => absurd o4 z)
    · have y182 : op = 182 := Decidable.not_not.1 y182
      have n4 : ¬ op = 184 := by omega
      rw [if_neg n4] at es fl
      refine ok_rd (by omega) (gA_255 V) ?_; intro v40 e40 _ _
      have cv := rtp_go hn X (y := m) (by omega) (by omega) (gou n4) ⟨by omega, by omega⟩
      rw [show 60 * i + 30 + R 254 i.toNat - n = 60 * i + 30 + (R 254 i.toNat - 1 - m) by omega] at e40
      rw [← e40] at cv
      refine ok_if (fun o0 => ?_) (fun _ => end_fails hn X V P0 (by decide))
      have un : (1 ≤ v40 ∧ v40 ≤ R 160 141) ∧ R 246 v40.toNat < 99 ∧ UNd nn g (R 246 v40.toNat) u := by
        rcases cv with z | z | z | ⟨z0, z⟩
        · exfalso; omega
        · exfalso; omega
        · exact absurd z o0
        · refine ⟨z0, ?_⟩
          rcases z with z | ⟨y, y0, z1, z2⟩ | ⟨y, y0, z1, z2⟩
          · exfalso; omega
          · rw [show y = u by omega] at z2
            rcases z2 with z2 | z2
            · exfalso
              obtain ⟨ml, up⟩ := hsn_up _ _ _ _ hs (by omega)
              rw [z2.2] at up
              have := und_0 ⟨show ¬ bb = -1 by omega, ml, up⟩
              omega
            · exact z2
          · exfalso; omega
      obtain ⟨ob, so, _, nl, up⟩ := un
      have sr : 0 ≤ R 246 v40.toNat ∧ R 246 v40.toNat < 8 + g 160 98 := by
        rcases (H.1 v40 ob.1 ob.2).2 with z | z | z
        · exact z.2.1
        · exfalso; omega
        · exfalso; omega
      obtain ⟨b2, j2, hs2, hb2, eq2, fl2⟩ := hsn_ov hn XV0 hs hbb hj fl nl (R 246 v40.toNat) sr up
      refine ok_rd (by omega) (gA_246 V) ?_; intro v42 e42 _ _
      refine ok_if (fun _ => ?_) (fun z => by exfalso; omega)
      refine ok_rd (by omega) (gA_246 V) ?_; intro v44 e44 _ _
      unfold qj_X13_call_166
      rw [e44]
      refine C168 _ b2 j2 sr hs2 hb2 eq2 (by rw [if_neg n4]; exact fl2) (fun _ => ?_)
      rw [← e40]
      obtain ⟨nl2, up2⟩ := hsn_up _ _ _ _ hs2 (by omega)
      exact .inr (.inr (.inr ⟨ob, .inr (.inl ⟨b2, by omega, rfl, .inr ⟨so, by omega, nl2, up2⟩⟩)⟩))
  rcases ho with q | q
  · rw [if_neg (show ¬ ¬ op = 182 by omega)]
    exact C72 1 (by rw [if_neg (by omega)])
  · rw [if_pos (show ¬ op = 182 by omega)]
    exact C72 0 (by rw [if_pos q])
end
