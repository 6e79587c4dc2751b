section
variable {nn : Nat} {g s h r z : ms_M} {w : Int}
theorem mn_ok : ∀ c : Nat, c < 196 → c ≠ 160 → (!(ml_.contains c) && (mf_.all (fun q => !(Nat.beq q.1 c)) && ((!false || !(is_I c)) && (!false || !(Nat.beq (ly_T c) 1))))) = true := by decide +kernel
/-- what was read and ruled stays -/
def AG (g s : ms_M) : Prop := (∀ c k : Nat, c ≤ 195 → c ≠ 160 → s c k = g c k) ∧ s 160 22 = g 160 22 ∧ s 160 24 = g 160 24 ∧ s 160 28 = g 160 28
theorem ag_rf : AG g g := ⟨fun _ _ _ _ => rfl, rfl, rfl, rfl⟩
theorem ag_tr (A : AG g s) (B : AG s h) : AG g h := ⟨fun c k a b => (B.1 c k a b).trans (A.1 c k a b), B.2.1.trans A.2.1, B.2.2.1.trans A.2.2.1, B.2.2.2.trans A.2.2.2⟩
theorem ag_mf (M : MF s h) : AG s h := ⟨fun c k a b => M c k (nw_ar (mn_ok c (by omega) b) k), M 160 22 rfl, M 160 24 rfl, M 160 28 rfl⟩
theorem ag_tok (A : AG g s) (t : Int) : tokL s t = tokL g t := by
  unfold tokL
  rw [A.1 165 _ (by decide) (by decide), A.1 164 _ (by decide) (by decide)]
  exact List.map_congr_left (fun j _ => A.1 162 _ (by decide) (by decide))
theorem ag_cls (A : AG g s) (c : Int) : clsL s c = clsL g c := by
  unfold clsL
  rw [A.1 178 _ (by decide) (by decide), ag_tok A]
theorem ag_knd (A : AG g s) (t : Int) : kndL s t = kndL g t := by
  unfold kndL
  rw [ag_cls A]
theorem ag_par (A : AG g s) : ∀ n f : Nat, parL s f n = parL g f n := by
  intro n
  induction n with
  | zero => intro f; rfl
  | succ n ih =>
    intro f
    show kndL s (s 195 f) ++ parL s (f + 1) n = kndL g (g 195 f) ++ parL g (f + 1) n
    rw [A.1 195 _ (by decide) (by decide), ag_knd A, ih]
theorem ag_mk (A : AG g s) (m : Nat) : mkL s m = mkL g m := by
  unfold mkL
  rw [A.1 182 _ (by decide) (by decide), A.1 188 _ (by decide) (by decide), A.1 189 _ (by decide) (by decide), A.1 187 _ (by decide) (by decide), ag_par A, ag_knd A]
theorem ag_src (A : AG g s) : srcL s = srcL g := funext fun i => by
  unfold srcL
  rw [ag_knd A 4, ag_knd A (i : Int), ag_cls A, A.1 186 _ (by decide) (by decide), ag_tok A, ag_mk A]
theorem ag_kp (A : AG g s) (K : KP g w h) : KP s w h := by
  unfold KP at K ⊢
  rw [ag_src A]; exact K
theorem ag_pk (A : AG g s) (K : KP s w h) : KP g w h := by
  unfold KP at K ⊢
  rw [← ag_src A]; exact K
theorem ag_sp (A : AG g s) (P : SP g) : SP s := by
  obtain ⟨⟨p0, p1⟩, p2, p3, p4, p5⟩ := P
  obtain ⟨a, a22, a24, a28⟩ := A
  refine ⟨⟨fun t ht => ?_, fun m hm => ?_⟩, by omega, fun c hc => ?_, by omega, fun m hm => ?_⟩
  · rw [a 164 _ (by decide) (by decide), a 165 _ (by decide) (by decide)]; exact p0 t ht
  · rw [a 188 _ (by decide) (by decide), a 189 _ (by decide) (by decide)]; exact p1 m hm
  · rw [a 178 _ (by decide) (by decide), a 165 _ (by decide) (by decide)]; exact p3 c (by omega)
  · obtain ⟨q1, q2, q3, q4⟩ := p5 m (by omega)
    rw [a 186 _ (by decide) (by decide), a 165 _ (by decide) (by decide), a 187 _ (by decide) (by decide), a 189 _ (by decide) (by decide), a 188 _ (by decide) (by decide)]
    exact ⟨q1, by omega, q3, fun k hk => by rw [a 195 _ (by decide) (by decide)]; have := q4 k hk; omega⟩
theorem ag_cn (A : AG g s) : ∀ n : Nat, Cn s n = Cn g n := by
  intro n
  induction n with
  | zero => rfl
  | succ n ih =>
    show Cn s n + wt (s 167 n) = Cn g n + wt (g 167 n)
    rw [ih, A.1 167 _ (by decide) (by decide)]
theorem ag_cm (A : AG g s) (x : Int) : Cm s x = Cm g x := ag_cn A _
theorem ag_te {k : Nat} {d a b e : Int} (A : AG g s) (ha : 0 ≤ a) (x : TE 0 g k d a b e) : TE 0 s k d a b e := te_fr x ha (fun c y h1 h2 _ _ => A.1 c y (by omega) (by omega))
theorem ag_yt {k : Nat} {a b e : Int} (A : AG g s) (x : YT g k a b e) : YT s k a b e := yt_fr x (fun c y h1 _ _ => A.1 c y (by omega) (by omega)) (fun y _ _ _ => A.1 176 y (by decide) (by decide))
theorem cm_z (g : ms_M) : Cm g 0 = 0 := rfl
/-- what is known behind the rules -/
def GB (g : ms_M) : Prop := SP g ∧ (g 160 22 ≤ 3000 ∧ Cm g (g 160 22) ≤ 3000) ∧ (∀ x : Nat, (x : Int) < g 160 22 → (0 ≤ g 174 x ∧ g 174 x < 24 + 2 * g 160 24) ∧ (20 ≤ g 167 x → g 175 x < g 160 28) ∧ ((g 167 x = 26 ∨ g 167 x = 31) → 0 ≤ g 175 x) ∧ ((g 167 x = 36 ∨ g 167 x = 38) → g 176 x < 24 + 2 * g 160 24) ∧ (g 167 x = 31 → g 176 x < 8 + g 160 24)) ∧ (∀ x : Nat, (x : Int) < g 160 28 → ¬ g 182 x = 0 → ∃ b b2, (b ≤ g 160 22 ∧ ∀ y : Nat, x < y → (y : Int) < g 160 28 → ¬ g 182 y = 0 → b ≤ g 190 y) ∧ TE 0 g 2 82 (g 190 x) b (g 190 x) ∧ YT g 2 (g 190 x) b2 (g 190 x)) ∧ (∀ c : Nat, (c : Int) < g 160 24 → g 180 c < 8 + g 160 24)
theorem gb_gz (A : AG g s) (V : VS_ s) (B : GB g) (h52 : 8 ≤ s 160 52 ∧ s 160 52 < 8 + s 160 24) : GZ s := by
  refine ⟨V, ag_sp A B.1, ⟨h52, by rw [A.2.1]; exact B.2.1.1⟩, fun x hx => ?_⟩
  rw [A.1 174 _ (by decide) (by decide), A.1 167 _ (by decide) (by decide), A.1 175 _ (by decide) (by decide), A.1 176 _ (by decide) (by decide), A.2.2.1, A.2.2.2]
  exact B.2.2.1 x (by have := A.2.1; omega)
/-- the pool between codes -/
def CT (g : ms_M) (w : Int) (h : ms_M) : Prop := VS_ h ∧ AG g h ∧ KP g w h ∧ h 160 66 = 0
theorem ct_cv (C : CT g w h) : CV h w h := ⟨⟨C.1, fun _ _ _ => rfl, trivial⟩, ag_kp C.2.1 C.2.2.1, C.2.2.2⟩
theorem cv_ct (A : AG g s) (C : CV s w h) : CT g w h := ⟨C.1.1, ag_tr A (ag_mf C.1.2.1), ag_pk A C.2.1, C.2.2⟩
theorem cw_ct (A : AG g s) (C : CW s w h) : CT g w h := ⟨C.1.1, ag_tr A (ag_mf C.1.2.1), ag_pk A C.2.1, C.2.2⟩
theorem ct_le {v : Int} (C : CT g w h) (hv : w ≤ v) : CT g v h := ⟨C.1, C.2.1, kp_le C.2.2.1 hv, C.2.2.2⟩
theorem ct_class (hn : 1000000 ≤ nn) (P : SP g) {t : Int} (C : CT g w h) (hw : w ≤ 3001) (ht : -1 ≤ t ∧ t < 24 + 2 * g 160 24) : Ok_ (qf_X13_classConstant nn t h) (fun u => CT g w u.2 ∧ NP h u.2 ∧ (1 ≤ u.1 ∧ u.1 ≤ 1999 ∧ u.1 ≤ u.2 160 62 ∧ h 160 62 ≤ u.2 160 62)) := ok_im (cv_class hn (ag_sp C.2.1 P) C.1 (ct_cv C) hw (by rw [C.2.1.2.2.1]; exact ht)) (fun u Q => ⟨cv_ct C.2.1 Q.1, Q.2⟩)
theorem ct_text (hn : 1000000 ≤ nn) (P : SP g) {m t : Int} (C : CT g w h) (hw : w ≤ 3001) (hm : 0 ≤ m ∧ m < g 160 28) (et : t = h 186 m.toNat) : Ok_ (qf_X13_textOf nn t h) (fun u => CT g w u.2 ∧ NP h u.2 ∧ (1 ≤ u.1 ∧ u.1 ≤ 1999)) := ok_im (cv_text hn (ag_sp C.2.1 P) C.1 (ct_cv C) hw (by rw [C.2.1.2.2.2]; exact hm) et) (fun u Q => ⟨cv_ct C.2.1 Q.1, Q.2.1, Q.2.2.1⟩)
theorem ct_kind (hn : 1000000 ≤ nn) (P : SP g) {m : Int} (C : CT g w h) (hw : w ≤ 3001) (hm : 0 ≤ m ∧ m < g 160 28) : Ok_ (qf_X13_kindOf nn m h) (fun u => CT g w u.2 ∧ NP h u.2 ∧ (1 ≤ u.1 ∧ u.1 ≤ 1999)) := ok_im (cv_kind hn (ag_sp C.2.1 P) C.1 (ct_cv C) hw (by rw [C.2.1.2.2.2]; exact hm)) (fun u Q => ⟨cv_ct C.2.1 Q.1, Q.2.1, Q.2.2.1⟩)
/-- what leaves the pool and what was ruled -/
theorem ct_of (C : CT g w h) (V : VS_ r) (N : ∀ c k : Nat, c ≤ 204 → ¬ (196 ≤ c ∧ c ≤ 199) → ¬ (c = 160 ∧ ¬ (k = 22 ∨ k = 24 ∨ k = 28 ∨ k = 62 ∨ k = 64 ∨ k = 66)) → r c k = h c k) : CT g w r := ⟨V, ag_tr C.2.1 ⟨fun c k a b => N c k (by omega) (by omega) (by omega), N 160 22 (by decide) (by decide) (by decide), N 160 24 (by decide) (by decide) (by decide), N 160 28 (by decide) (by decide) (by decide)⟩, kp_pe C.2.2.1 (fun c k a b => N c k (by omega) (by omega) (by omega)) (N 160 62 (by decide) (by decide) (by decide)) (N 160 64 (by decide) (by decide) (by decide)), (N 160 66 (by decide) (by decide) (by decide)).trans C.2.2.2⟩
/-- a byte is told -/
def NT (h r : ms_M) : Prop := ∀ c k : Nat, c ≠ 225 → ¬ (c = 160 ∧ k = 97) → r c k = h c k
theorem ct_tell {x : Int} (C : CT g w h) (h97 : h 160 97 ≤ 900000000) : Ok_ (qf_X13_tell nn x h) (fun r => CT g w r ∧ NT h r ∧ r 160 97 = h 160 97 + 1) := by
  have g97 := gF_160_97 C.1
  have K : ∀ z : ms_M, VS_ z → NT h z → z 160 97 = h 160 97 → Ok_ (qj_X13_tell_26 nn z) (fun r => CT g w r ∧ NT h r ∧ r 160 97 = h 160 97 + 1) := fun z V N e => by
    unfold qj_X13_tell_26
    refine ok_add (by omega) ?_; intro v2 e2
    refine ok_xl ?_; intro h3 E3
    have V3 : VS_ h3 := by rw [E3]; exact wF_160_97 V (by omega)
    have N3 : NT h h3 := fun c k a b => by rw [E3, up_n b]; exact N c k a b
    exact ok_ret ⟨ct_of C V3 (fun c k a b d => N3 c k (by omega) (by omega)), N3, by rw [E3, up_s]; omega⟩
  unfold qf_X13_tell
  refine ok_if (fun c => K h C.1 (fun _ _ _ _ => rfl) rfl) (fun c => ?_)
  refine ok_and (by decide) ?_; intro v9 a9 b9
  refine ok_wA (by omega) ?_; intro h10 E10
  exact K h10 (by rw [E10]; exact wA_225 C.1 (by omega)) (fun c k a b => by rw [E10, up_n (by omega)]) (by rw [E10, up_n (by omega)])
theorem nt_tr (x : NT h z) (y : NT z r) : NT h r := fun c k a b => (y c k a b).trans (x c k a b)
theorem ct_pair {x : Int} (C : CT g w h) (h97 : h 160 97 ≤ 890000000) : Ok_ (qf_X13_tellPair nn x h) (fun r => CT g w r ∧ NT h r ∧ r 160 97 = h 160 97 + 2) := by
  unfold qf_X13_tellPair
  refine ok_xl ?_; intro v1 _
  refine ok_sv (ct_tell C (by omega)) ?_; intro u3 P3
  refine ok_sv (ct_tell P3.1 (by omega)) ?_; intro u5 P5
  exact ok_ret ⟨P5.1, nt_tr P3.2.1 P5.2.1, by omega⟩
/-- told, and constants put in -/
def NQ (h r : ms_M) : Prop := ∀ c k : Nat, c ≠ 225 → ¬ (200 ≤ c ∧ c ≤ 205) → ¬ (c = 160 ∧ (k = 62 ∨ k = 64 ∨ k = 66 ∨ k = 97)) → r c k = h c k
theorem nq_np (x : NP h r) : NQ h r := fun c k _ b d => x c k b (by omega)
theorem nq_nt (x : NT h r) : NQ h r := fun c k a _ d => x c k a (by omega)
theorem nq_rf : NQ h h := fun _ _ _ _ _ => rfl
theorem nq_tr (x : NQ h z) (y : NQ z r) : NQ h r := fun c k a b d => (y c k a b d).trans (x c k a b d)
theorem ct_type (hn : 1000000 ≤ nn) (P : SP g) {x : Int} (C : CT g w h) (hw : w ≤ 3001) (hx : 0 ≤ x ∧ x < 24 + 2 * g 160 24) (h97 : h 160 97 ≤ 890000000) : Ok_ (qf_X13_tellType nn x h) (fun r => CT g w r ∧ NQ h r ∧ (h 160 97 ≤ r 160 97 ∧ r 160 97 ≤ h 160 97 + 2)) := by
  have K : ∀ v : Int, Ok_ (qj_X13_tellType_20 nn x v h) (fun r => CT g w r ∧ NQ h r ∧ (h 160 97 ≤ r 160 97 ∧ r 160 97 ≤ h 160 97 + 2)) := fun v => by
    unfold qj_X13_tellType_20
    refine ok_sv (ct_tell C (by omega)) ?_; intro u2 P2
    refine ok_if (fun _ => ok_ret ⟨P2.1, nq_nt P2.2.1, by omega⟩) (fun _ => ?_)
    refine ok_sv (ct_class hn P P2.1 hw (by omega)) ?_; intro u4 P4
    have e97 := P4.2.1 160 97 (by decide) (by decide)
    refine ok_sv (ct_tell P4.1 (by omega)) ?_; intro u6 P6
    exact ok_ret ⟨P6.1, nq_tr (nq_nt P2.2.1) (nq_tr (nq_np P4.2.1) (nq_nt P6.2.1)), by omega⟩
  unfold qf_X13_tellType
  exact ok_if (fun _ => ok_if (fun _ => K 3) (fun _ => K 2)) (fun _ => K 1)
end
