set_option maxHeartbeats 4000000 in
theorem o_X10_readCall_ok (X : Nat × (Nat → Int32)) {F L d : Nat} (hF : 5 + (d + 1) ≤ F) (hL : 152 + (d + 1) * 30 ≤ L) (nn : Nat) {rc : tg_X10_readValue} (hrc : hg_X10_readValue X d rc) (a0 : Nat) (a1 : Int32) (a2 : Int32) (a3 : Int32) (a4 : Int32) (a5 : Int32) (a6 : Int32) (h : mx_H) {r : mx_H} (hf : o_X10_readCall nn rc a0 a1 a2 a3 a4 a5 a6 h = some r) : mx_R X F L 304 [.ref a0, .int a1, .int a2, .int a3, .int a4, .int a5, .int a6] h (none, r, 0, 0) := by
  have hm : mx_mt 304 = some (yX10_readCall, cX10_readCall, 11, none) := mt_X10_readCall
  show mx_S X F L 304 0 [(0, .ref a0), (1, .int a1), (2, .int a2), (3, .int a3), (4, .int a4), (5, .int a5), (6, .int a6)] [] h 0 0 (none, r, 0, 0)
  unfold o_X10_readCall at hf
  refine sx_ic (v := 0) hm dX10_readCall_0 (by decide) ?_
  refine mx_S.pu (pc2 := 3) (lv2 := [(7, .int 0), (0, .ref a0), (1, .int a1), (2, .int a2), (3, .int a3), (4, .int a4), (5, .int a5), (6, .int a6)]) (st2 := []) hm dX10_readCall_1 rfl ?_
  refine sx_ic (v := 1) hm dX10_readCall_3 (by decide) ?_
  refine mx_S.pu (pc2 := 6) (lv2 := [(8, .int 1), (7, .int 0), (0, .ref a0), (1, .int a1), (2, .int a2), (3, .int a3), (4, .int a4), (5, .int a5), (6, .int a6)]) (st2 := []) hm dX10_readCall_4 rfl ?_
  refine mx_S.pu (pc2 := 7) (lv2 := [(8, .int 1), (7, .int 0), (0, .ref a0), (1, .int a1), (2, .int a2), (3, .int a3), (4, .int a4), (5, .int a5), (6, .int a6)]) (st2 := [.ref a0]) hm dX10_readCall_6 rfl ?_
  replace hf := mx_sv_el hf; obtain ⟨v69, e_v69, hf⟩ := hf
  refine sx_get hm dX10_readCall_7 rs_RX10_31 (xgr_el e_v69) ?_
  clear e_v69
  refine mx_S.pu (pc2 := 11) (lv2 := [(8, .int 1), (7, .int 0), (0, .ref a0), (1, .int a1), (2, .int a2), (3, .int a3), (4, .int a4), (5, .int a5), (6, .int a6)]) (st2 := [.ref v69, .ref v69]) hm dX10_readCall_10 rfl ?_
  replace hf := mx_sv_el hf; obtain ⟨v70, e_v70, hf⟩ := hf
  refine sx_get hm dX10_readCall_11 rs_RX10_72 (xgi_el e_v70) ?_
  clear e_v70
  refine sx_ic (v := 1) hm dX10_readCall_14 (by decide) ?_
  replace hf := xl_el hf; obtain ⟨v71, e_v71, hf⟩ := hf
  refine mx_S.pu (pc2 := 16) (lv2 := [(8, .int 1), (7, .int 0), (0, .ref a0), (1, .int a1), (2, .int a2), (3, .int a3), (4, .int a4), (5, .int a5), (6, .int a6)]) (st2 := [.int v71, .ref v69]) hm dX10_readCall_15 (by rw [← e_v71]; rfl) ?_
  clear e_v71
  replace hf := mx_sv_el hf; obtain ⟨h72, e_h72, hf⟩ := hf
  refine sx_put hm dX10_readCall_16 rs_RX10_72 ft_9_10 ⟨rfl, rfl⟩ (fun z => by cases z) e_h72 ?_
  clear e_h72
  refine sx_ic (v := 0) hm dX10_readCall_19 (by decide) ?_
  refine mx_S.pu (pc2 := 22) (lv2 := [(9, .int 0), (8, .int 1), (7, .int 0), (0, .ref a0), (1, .int a1), (2, .int a2), (3, .int a3), (4, .int a4), (5, .int a5), (6, .int a6)]) (st2 := []) hm dX10_readCall_20 rfl ?_
  refine mx_S.ext [(0, .ref a0), (1, .int a1), (2, .int a2), (3, .int a3), (4, .int a4), (5, .int a5), (6, .int a6), (7, .int 0), (8, .int 1), (9, .int 0)] (mx_sub_pos [3, 4, 5, 6, 7, 8, 9, 2, 1, 0] rfl (show ([9, 8, 7, 0, 1, 2, 3, 4, 5, 6] : List Nat).Nodup by decide)) ?_
  exact w_X10_readCall_22_ok X hF hL nn hrc nn a0 a1 a2 a3 a4 a5 a6 0 1 0 h72 _ hf
theorem g_X10_readValue_ok (X : Nat × (Nat → Int32)) (nn : Nat) : ∀ d, hg_X10_readValue X d (g_X10_readValue nn d) := by
  intro d
  induction d with
  | zero => exact ⟨(fun {F L} _ _ a0 a1 h {r} hf => by cases hf), (fun {F L} _ _ a0 a1 a2 h {r} hf => by cases hf), (fun {F L} _ _ a0 a1 h {r} hf => by cases hf), (fun {F L} _ _ a0 a1 h {r} hf => by cases hf), (fun {F L} _ _ a0 a1 h {r} hf => by cases hf), (fun {F L} _ _ a0 a1 h {r} hf => by cases hf), (fun {F L} _ _ a0 a1 h {r} hf => by cases hf), (fun {F L} _ _ a0 a1 a2 h {r} hf => by cases hf), (fun {F L} _ _ a0 a1 a2 a3 a4 a5 a6 h {r} hf => by cases hf)⟩
  | succ d ih => exact ⟨(fun {F L} hF hL a0 a1 h {r} hf => o_X10_readValue_ok X hF hL nn ih a0 a1 h hf), (fun {F L} hF hL a0 a1 a2 h {r} hf => o_X10_readChoice_ok X hF hL nn ih a0 a1 a2 h hf), (fun {F L} hF hL a0 a1 h {r} hf => o_X10_readUnary_ok X hF hL nn ih a0 a1 h hf), (fun {F L} hF hL a0 a1 h {r} hf => o_X10_readPrimary_ok X hF hL nn ih a0 a1 h hf), (fun {F L} hF hL a0 a1 h {r} hf => o_X10_readNew_ok X hF hL nn ih a0 a1 h hf), (fun {F L} hF hL a0 a1 h {r} hf => o_X10_readElement_ok X hF hL nn ih a0 a1 h hf), (fun {F L} hF hL a0 a1 h {r} hf => o_X10_readNamed_ok X hF hL nn ih a0 a1 h hf), (fun {F L} hF hL a0 a1 a2 h {r} hf => o_X10_readBehindPoint_ok X hF hL nn ih a0 a1 a2 h hf), (fun {F L} hF hL a0 a1 a2 a3 a4 a5 a6 h {r} hf => o_X10_readCall_ok X hF hL nn ih a0 a1 a2 a3 a4 a5 a6 h hf)⟩
theorem f_X10_readValue_ok (X : Nat × (Nat → Int32)) {F L : Nat} (hF : 425 ≤ F) (hL : 12752 ≤ L) (nn : Nat) (a0 : Nat) (a1 : Int32) (h : mx_H) {r : mx_H} (hf : f_X10_readValue nn a0 a1 h = some r) : mx_R X F L 275 [.ref a0, .int a1] h (none, r, 0, 0) := (g_X10_readValue_ok X nn 420).1 (by omega) (by omega) a0 a1 h hf
theorem f_X10_readChoice_ok (X : Nat × (Nat → Int32)) {F L : Nat} (hF : 425 ≤ F) (hL : 12752 ≤ L) (nn : Nat) (a0 : Nat) (a1 : Int32) (a2 : Int32) (h : mx_H) {r : mx_H} (hf : f_X10_readChoice nn a0 a1 a2 h = some r) : mx_R X F L 276 [.ref a0, .int a1, .int a2] h (none, r, 0, 0) := (g_X10_readValue_ok X nn 420).2.1 (by omega) (by omega) a0 a1 a2 h hf
theorem f_X10_readUnary_ok (X : Nat × (Nat → Int32)) {F L : Nat} (hF : 425 ≤ F) (hL : 12752 ≤ L) (nn : Nat) (a0 : Nat) (a1 : Int32) (h : mx_H) {r : mx_H} (hf : f_X10_readUnary nn a0 a1 h = some r) : mx_R X F L 288 [.ref a0, .int a1] h (none, r, 0, 0) := (g_X10_readValue_ok X nn 420).2.2.1 (by omega) (by omega) a0 a1 h hf
theorem f_X10_readPrimary_ok (X : Nat × (Nat → Int32)) {F L : Nat} (hF : 425 ≤ F) (hL : 12752 ≤ L) (nn : Nat) (a0 : Nat) (a1 : Int32) (h : mx_H) {r : mx_H} (hf : f_X10_readPrimary nn a0 a1 h = some r) : mx_R X F L 291 [.ref a0, .int a1] h (none, r, 0, 0) := (g_X10_readValue_ok X nn 420).2.2.2.1 (by omega) (by omega) a0 a1 h hf
theorem f_X10_readNew_ok (X : Nat × (Nat → Int32)) {F L : Nat} (hF : 425 ≤ F) (hL : 12752 ≤ L) (nn : Nat) (a0 : Nat) (a1 : Int32) (h : mx_H) {r : mx_H} (hf : f_X10_readNew nn a0 a1 h = some r) : mx_R X F L 297 [.ref a0, .int a1] h (none, r, 0, 0) := (g_X10_readValue_ok X nn 420).2.2.2.2.1 (by omega) (by omega) a0 a1 h hf
theorem f_X10_readElement_ok (X : Nat × (Nat → Int32)) {F L : Nat} (hF : 425 ≤ F) (hL : 12752 ≤ L) (nn : Nat) (a0 : Nat) (a1 : Int32) (h : mx_H) {r : mx_H} (hf : f_X10_readElement nn a0 a1 h = some r) : mx_R X F L 298 [.ref a0, .int a1] h (none, r, 0, 0) := (g_X10_readValue_ok X nn 420).2.2.2.2.2.1 (by omega) (by omega) a0 a1 h hf
theorem f_X10_readNamed_ok (X : Nat × (Nat → Int32)) {F L : Nat} (hF : 425 ≤ F) (hL : 12752 ≤ L) (nn : Nat) (a0 : Nat) (a1 : Int32) (h : mx_H) {r : mx_H} (hf : f_X10_readNamed nn a0 a1 h = some r) : mx_R X F L 299 [.ref a0, .int a1] h (none, r, 0, 0) := (g_X10_readValue_ok X nn 420).2.2.2.2.2.2.1 (by omega) (by omega) a0 a1 h hf
theorem f_X10_readBehindPoint_ok (X : Nat × (Nat → Int32)) {F L : Nat} (hF : 425 ≤ F) (hL : 12752 ≤ L) (nn : Nat) (a0 : Nat) (a1 : Int32) (a2 : Int32) (h : mx_H) {r : mx_H} (hf : f_X10_readBehindPoint nn a0 a1 a2 h = some r) : mx_R X F L 303 [.ref a0, .int a1, .int a2] h (none, r, 0, 0) := (g_X10_readValue_ok X nn 420).2.2.2.2.2.2.2.1 (by omega) (by omega) a0 a1 a2 h hf
theorem f_X10_readCall_ok (X : Nat × (Nat → Int32)) {F L : Nat} (hF : 425 ≤ F) (hL : 12752 ≤ L) (nn : Nat) (a0 : Nat) (a1 : Int32) (a2 : Int32) (a3 : Int32) (a4 : Int32) (a5 : Int32) (a6 : Int32) (h : mx_H) {r : mx_H} (hf : f_X10_readCall nn a0 a1 a2 a3 a4 a5 a6 h = some r) : mx_R X F L 304 [.ref a0, .int a1, .int a2, .int a3, .int a4, .int a5, .int a6] h (none, r, 0, 0) := (g_X10_readValue_ok X nn 420).2.2.2.2.2.2.2.2 (by omega) (by omega) a0 a1 a2 a3 a4 a5 a6 h hf
