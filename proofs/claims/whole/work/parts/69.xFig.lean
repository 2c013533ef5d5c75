/-! the class: figures made -/
/-- cells are added, none is other; the figures from the m-th on may be -/
def pv_al (m : Int) (t : pv_T) (Rf : pv_R) (t1 : pv_T) (R1 : pv_R) : Prop := t.2 ≤ t1.2 ∧ (∀ a, a < t.2 → t1.1 a = t.1 a) ∧ ∀ (a j : Nat), a < t.2 → ¬ (a = 18 ∧ m ≤ (j : Int)) → R1 a j = Rf a j
theorem pv_al.rf {m : Int} {t : pv_T} {Rf : pv_R} : pv_al m t Rf t Rf := ⟨Nat.le_refl _, fun _ _ => rfl, fun _ _ _ _ => rfl⟩
theorem pv_al.tr {m m1 : Int} {t t1 t2 : pv_T} {Rf R1 R2 : pv_R} (h : pv_al m t Rf t1 R1) (g : pv_al m1 t1 R1 t2 R2) (hm : m ≤ m1) : pv_al m t Rf t2 R2 := by
  obtain ⟨h1, h2, h3⟩ := h
  obtain ⟨g1, g2, g3⟩ := g
  exact ⟨by omega, fun a ha => (g2 a (by omega)).trans (h2 a ha), fun a j ha q => (g3 a j (by omega) (by omega)).trans (h3 a j ha q)⟩
theorem pv_al.sh {m : Int} {t t1 : pv_T} {Rf R1 : pv_R} (h : pv_al m t Rf t1 R1) (g : sh_ok t) : sh_ok t1 := by
  obtain ⟨h1, h2, h3⟩ := h
  refine ⟨by have := g.1; omega, fun k x q => ?_⟩
  have hk : k < 74 := (List.getElem?_eq_some_iff.mp q).1
  rw [h2 _ (by have := g.1; omega)]
  exact g.2 k x q
theorem pv_al.re {m : Int} {t t1 : pv_T} {Rf R1 : pv_R} (h : pv_al m t Rf t1 R1) (gt : sh_ok t) (g : rf_ok Rf) : rf_ok R1 := fun q hq => by
  have e : ∀ q ∈ pv_rfl, q.1 < 90 ∧ q.1 ≠ 18 := by decide
  have e1 := e q hq
  rw [h.2.2 _ _ (by have := gt.1; omega) (by omega)]
  exact g q hq
theorem XF.al {J : pv_I} {t t1 : pv_T} {I I1 : pv_I} {Rf R1 : pv_R} {m : Int} (g : XF J t I Rf) (gt : sh_ok t) (h : pv_al m t Rf t1 R1) (hm : (J 0 0).toInt ≤ m) (hI : ∀ a j, 90 ≤ a → a < t.2 → I1 a j = I a j) : XF J t1 I1 R1 := fun i hi => by
  obtain ⟨x, x1, x2, x3, x4, x5, x6, x7, x8, x9⟩ := g i hi
  obtain ⟨h1, h2, h3⟩ := h
  have := gt.1
  exact ⟨x, (h3 _ _ (by omega) (by omega)).trans x1, x2, by omega, (h2 _ x3).trans x4, (hI x 0 x2 x3).trans x5, (hI x 1 x2 x3).trans x6, (hI x 2 x2 x3).trans x7, (hI x 3 x2 x3).trans x8, (h3 _ _ x3 (by omega)).trans x9⟩
/-- cells that are added let the world be -/
theorem RX.al {J : pv_I} {K : pv_L} {t t1 : pv_T} {I I1 : pv_I} {L L1 : pv_L} {Rf R1 : pv_R} {m : Int} (h : RX J K t I L Rf) (a : pv_al m t Rf t1 R1) (hm : (J 0 0).toInt ≤ m) (hI : ∀ a j, a < t.2 → I1 a j = I a j) (hL : ∀ a j, a < t.2 → L1 a j = L a j) : RX J K t1 I1 L1 R1 := by
  obtain ⟨h1, h2, h3, h4, h5, h6, h7⟩ := h
  have n := h1.1
  exact ⟨a.sh h1, a.re h1 h2, h3.cg (fun j => hI 21 j (by omega)) (fun j => hI 22 j (by omega)) (fun j => hL 21 j (by omega)), h4.al h1 a hm (fun b j _ q => hI b j q), fun s hs => (h5 s hs).cg (fun j _ => hI _ j (by omega)) (fun j => hL _ j (by omega)), h6.cg (fun j => hI 19 j (by omega)) (fun j => hI 16 j (by omega)) (fun j => hI 20 j (by omega)), fun q => (h7 q).cg (fun j => hI 23 j (by omega)) (fun j => hI 24 j (by omega)) (fun j => hL 23 j (by omega))⟩
def x_nI (I : pv_I) (x : Nat) (k n p c : Int32) : pv_I := pv_u (pv_u (pv_u (pv_u (pv_ur I x fun _ => 0) x 0 k) x 1 n) x 2 p) x 3 c
def x_nL (L : pv_L) (x : Nat) : pv_L := pv_ur L x fun _ => 0
def x_nR (Rf : pv_R) (x : Nat) : pv_R := pv_u (pv_ur Rf x fun _ => none) x 4 (some 20)
theorem x_nI_o {I : pv_I} {x : Nat} {k n p c : Int32} {a j : Nat} (h : a ≠ x) : x_nI I x k n p c a j = I a j := by
  unfold x_nI
  rw [pv_u_o _ (by omega), pv_u_o _ (by omega), pv_u_o _ (by omega), pv_u_o _ (by omega), pv_ur_ne _ _ h]
theorem x_nI_x {I : pv_I} {x : Nat} {k n p c : Int32} : x_nI I x k n p c x 0 = k ∧ x_nI I x k n p c x 1 = n ∧ x_nI I x k n p c x 2 = p ∧ x_nI I x k n p c x 3 = c := by
  unfold x_nI
  refine ⟨?_, ?_, ?_, ?_⟩ <;> simp [pv_u_app]
theorem x_nL_o {L : pv_L} {x a j : Nat} (h : a ≠ x) : x_nL L x a j = L a j := by unfold x_nL; rw [pv_ur_ne _ _ h]
theorem x_nR_o {Rf : pv_R} {x a j : Nat} (h : a ≠ x) : x_nR Rf x a j = Rf a j := by
  unfold x_nR
  rw [pv_u_o _ (by omega), pv_ur_ne _ _ h]
theorem x_nR_x {Rf : pv_R} {x : Nat} : x_nR Rf x x 4 = some 20 := by unfold x_nR; rw [pv_u_eq, if_pos rfl]
theorem pv_tn_o {t : pv_T} {s : pv_Sh} {a : Nat} (h : a < t.2) : (pv_tn t s).1 a = t.1 a := by show (if a = t.2 then some s else t.1 a) = _; rw [if_neg (by omega)]
theorem pv_tn_x {t : pv_T} {s : pv_Sh} : (pv_tn t s).1 t.2 = some s := if_pos rfl
theorem pv_al.tn {m : Int} {t : pv_T} {s : pv_Sh} {Rf R1 : pv_R} (h : ∀ (a j : Nat), a < t.2 → ¬ (a = 18 ∧ m ≤ (j : Int)) → R1 a j = Rf a j) : pv_al m t Rf (pv_tn t s) R1 := ⟨Nat.le_succ _, fun _ ha => pv_tn_o ha, h⟩

set_option maxRecDepth 100000 in
set_option maxHeartbeats 4000000 in
theorem c_init_3_3 {G : pv_G} {d : Nat} {x : Nat} {k n p c : Int32} {t : pv_T} {I : pv_I} {L : pv_L} {Rf : pv_R} (hx : 16 ≤ x) (hs : t.1 x = some (.inr 3)) (hd : 1 ≤ d) : pv_Mt G mX3_init d 0 0 [.ref x, .int k, .int n, .int p, .int c, .ref 20] t I L Rf (pv_is none t (pv_u (pv_u (pv_u (pv_u I x 0 k) x 1 n) x 2 p) x 3 c) L (pv_u Rf x 4 (some 20))) := by
  refine pv_mt mgX3_init.2.2.2.2.2 [.ref x, .int k, .int n, .int p, .int c, .ref 20] rfl (Nat.le_of_ble_eq_true rfl) ?_
  refine pv_aload_0 (pc := 0) dX3_init_0 ?_
  refine pv_objInit (pc := 1) dX3_init_1 ol_X3_1 oi_1 oi_2 (by omega) (by decide) ?_
  refine pv_aload_0 (pc := 4) dX3_init_4 ?_
  refine pv_iload_1 (pc := 5) dX3_init_5 ?_
  refine pv_putI (pc := 6) dX3_init_6 fl_X3_7_3 (fun _ => rfl) ⟨rfl, rfl, rfl⟩ hx hs ?_
  refine pv_aload_0 (pc := 9) dX3_init_9 ?_
  refine pv_iload_2 (pc := 10) dX3_init_10 ?_
  refine pv_putI (pc := 11) dX3_init_11 fl_X3_13_3 (fun _ => rfl) ⟨rfl, rfl, rfl⟩ hx hs ?_
  refine pv_aload_0 (pc := 14) dX3_init_14 ?_
  refine pv_iload_3 (pc := 15) dX3_init_15 ?_
  refine pv_putI (pc := 16) dX3_init_16 fl_X3_16_3 (fun _ => rfl) ⟨rfl, rfl, rfl⟩ hx hs ?_
  refine pv_aload_0 (pc := 19) dX3_init_19 ?_
  refine pv_iload_4 (pc := 20) dX3_init_20 ?_
  refine pv_putI (pc := 22) dX3_init_22 fl_X3_19_3 (fun _ => rfl) ⟨rfl, rfl, rfl⟩ hx hs ?_
  refine pv_aload_0 (pc := 25) dX3_init_25 ?_
  refine pv_aload_5 (pc := 26) dX3_init_26 ?_
  refine pv_putR (pc := 28) dX3_init_28 fl_X3_22_3 (fun _ => rfl) rfl hx hs (o := some _) rfl ?_
  refine pv_vret (pc := 31) dX3_init_31 rfl ?_
  exact ⟨rfl, rfl, rfl, rfl, rfl⟩

set_option maxRecDepth 100000 in
set_option maxHeartbeats 4000000 in
theorem c_init_1_3 {G : pv_G} {d : Nat} {x : Nat} {k n p c : Int32} {t : pv_T} {I : pv_I} {L : pv_L} {Rf : pv_R} (hx : 16 ≤ x) (hs : t.1 x = some (.inr 1)) (hd : 1 ≤ d) : pv_Mt G mX3_init d 0 0 [.ref x, .int k, .int n, .int p, .int c, .ref 20] t I L Rf (pv_is none t (pv_u (pv_u (pv_u (pv_u I x 0 k) x 1 n) x 2 p) x 3 c) L (pv_u Rf x 4 (some 20))) := by
  refine pv_mt mgX3_init.2.2.2.2.2 [.ref x, .int k, .int n, .int p, .int c, .ref 20] rfl (Nat.le_of_ble_eq_true rfl) ?_
  refine pv_aload_0 (pc := 0) dX3_init_0 ?_
  refine pv_objInit (pc := 1) dX3_init_1 ol_X3_1 oi_1 oi_2 (by omega) (by decide) ?_
  refine pv_aload_0 (pc := 4) dX3_init_4 ?_
  refine pv_iload_1 (pc := 5) dX3_init_5 ?_
  refine pv_putI (pc := 6) dX3_init_6 fl_X3_7_1 (fun _ => rfl) ⟨rfl, rfl, rfl⟩ hx hs ?_
  refine pv_aload_0 (pc := 9) dX3_init_9 ?_
  refine pv_iload_2 (pc := 10) dX3_init_10 ?_
  refine pv_putI (pc := 11) dX3_init_11 fl_X3_13_1 (fun _ => rfl) ⟨rfl, rfl, rfl⟩ hx hs ?_
  refine pv_aload_0 (pc := 14) dX3_init_14 ?_
  refine pv_iload_3 (pc := 15) dX3_init_15 ?_
  refine pv_putI (pc := 16) dX3_init_16 fl_X3_16_1 (fun _ => rfl) ⟨rfl, rfl, rfl⟩ hx hs ?_
  refine pv_aload_0 (pc := 19) dX3_init_19 ?_
  refine pv_iload_4 (pc := 20) dX3_init_20 ?_
  refine pv_putI (pc := 22) dX3_init_22 fl_X3_19_1 (fun _ => rfl) ⟨rfl, rfl, rfl⟩ hx hs ?_
  refine pv_aload_0 (pc := 25) dX3_init_25 ?_
  refine pv_aload_5 (pc := 26) dX3_init_26 ?_
  refine pv_putR (pc := 28) dX3_init_28 fl_X3_22_1 (fun _ => rfl) rfl hx hs (o := some _) rfl ?_
  refine pv_vret (pc := 31) dX3_init_31 rfl ?_
  exact ⟨rfl, rfl, rfl, rfl, rfl⟩

set_option maxRecDepth 100000 in
set_option maxHeartbeats 4000000 in
theorem c_init_1_1 {G : pv_G} {d : Nat} {x : Nat} {k n p c : Int32} {t : pv_T} {I : pv_I} {L : pv_L} {Rf : pv_R} (hx : 16 ≤ x) (hs : t.1 x = some (.inr 1)) (hd : 2 ≤ d) : pv_Mt G mX1_init d 0 0 [.ref x, .int k, .int n, .int p, .int c, .ref 20] t I L Rf (pv_is none t (pv_u (pv_u (pv_u (pv_u I x 0 k) x 1 n) x 2 p) x 3 c) L (pv_u Rf x 4 (some 20))) := by
  refine pv_mt mgX1_init.2.2.2.2.2 [.ref x, .int k, .int n, .int p, .int c, .ref 20] rfl (Nat.le_of_ble_eq_true rfl) ?_
  refine pv_aload_0 (pc := 0) dX1_init_0 ?_
  refine pv_iload_1 (pc := 1) dX1_init_1 ?_
  refine pv_iload_2 (pc := 2) dX1_init_2 ?_
  refine pv_iload_3 (pc := 3) dX1_init_3 ?_
  refine pv_iload_4 (pc := 4) dX1_init_4 ?_
  refine pv_aload_5 (pc := 6) dX1_init_6 ?_
  refine pv_callI0 (pc := 8) dX1_init_8 mgX3_init li_X1_1 (by omega) (c_init_1_3 hx hs (by omega)) rfl rfl (by decide) ?_
  refine pv_vret (pc := 11) dX1_init_11 rfl ?_
  exact ⟨rfl, rfl, rfl, rfl, rfl⟩

set_option maxRecDepth 100000 in
set_option maxHeartbeats 4000000 in
theorem c_init_10_3 {G : pv_G} {d : Nat} {x : Nat} {k n p c : Int32} {t : pv_T} {I : pv_I} {L : pv_L} {Rf : pv_R} (hx : 16 ≤ x) (hs : t.1 x = some (.inr 10)) (hd : 1 ≤ d) : pv_Mt G mX3_init d 0 0 [.ref x, .int k, .int n, .int p, .int c, .ref 20] t I L Rf (pv_is none t (pv_u (pv_u (pv_u (pv_u I x 0 k) x 1 n) x 2 p) x 3 c) L (pv_u Rf x 4 (some 20))) := by
  refine pv_mt mgX3_init.2.2.2.2.2 [.ref x, .int k, .int n, .int p, .int c, .ref 20] rfl (Nat.le_of_ble_eq_true rfl) ?_
  refine pv_aload_0 (pc := 0) dX3_init_0 ?_
  refine pv_objInit (pc := 1) dX3_init_1 ol_X3_1 oi_1 oi_2 (by omega) (by decide) ?_
  refine pv_aload_0 (pc := 4) dX3_init_4 ?_
  refine pv_iload_1 (pc := 5) dX3_init_5 ?_
  refine pv_putI (pc := 6) dX3_init_6 fl_X3_7_10 (fun _ => rfl) ⟨rfl, rfl, rfl⟩ hx hs ?_
  refine pv_aload_0 (pc := 9) dX3_init_9 ?_
  refine pv_iload_2 (pc := 10) dX3_init_10 ?_
  refine pv_putI (pc := 11) dX3_init_11 fl_X3_13_10 (fun _ => rfl) ⟨rfl, rfl, rfl⟩ hx hs ?_
  refine pv_aload_0 (pc := 14) dX3_init_14 ?_
  refine pv_iload_3 (pc := 15) dX3_init_15 ?_
  refine pv_putI (pc := 16) dX3_init_16 fl_X3_16_10 (fun _ => rfl) ⟨rfl, rfl, rfl⟩ hx hs ?_
  refine pv_aload_0 (pc := 19) dX3_init_19 ?_
  refine pv_iload_4 (pc := 20) dX3_init_20 ?_
  refine pv_putI (pc := 22) dX3_init_22 fl_X3_19_10 (fun _ => rfl) ⟨rfl, rfl, rfl⟩ hx hs ?_
  refine pv_aload_0 (pc := 25) dX3_init_25 ?_
  refine pv_aload_5 (pc := 26) dX3_init_26 ?_
  refine pv_putR (pc := 28) dX3_init_28 fl_X3_22_10 (fun _ => rfl) rfl hx hs (o := some _) rfl ?_
  refine pv_vret (pc := 31) dX3_init_31 rfl ?_
  exact ⟨rfl, rfl, rfl, rfl, rfl⟩

set_option maxRecDepth 100000 in
set_option maxHeartbeats 4000000 in
theorem c_init_10_1 {G : pv_G} {d : Nat} {x : Nat} {k n p c : Int32} {t : pv_T} {I : pv_I} {L : pv_L} {Rf : pv_R} (hx : 16 ≤ x) (hs : t.1 x = some (.inr 10)) (hd : 2 ≤ d) : pv_Mt G mX1_init d 0 0 [.ref x, .int k, .int n, .int p, .int c, .ref 20] t I L Rf (pv_is none t (pv_u (pv_u (pv_u (pv_u I x 0 k) x 1 n) x 2 p) x 3 c) L (pv_u Rf x 4 (some 20))) := by
  refine pv_mt mgX1_init.2.2.2.2.2 [.ref x, .int k, .int n, .int p, .int c, .ref 20] rfl (Nat.le_of_ble_eq_true rfl) ?_
  refine pv_aload_0 (pc := 0) dX1_init_0 ?_
  refine pv_iload_1 (pc := 1) dX1_init_1 ?_
  refine pv_iload_2 (pc := 2) dX1_init_2 ?_
  refine pv_iload_3 (pc := 3) dX1_init_3 ?_
  refine pv_iload_4 (pc := 4) dX1_init_4 ?_
  refine pv_aload_5 (pc := 6) dX1_init_6 ?_
  refine pv_callI0 (pc := 8) dX1_init_8 mgX3_init li_X1_1 (by omega) (c_init_10_3 hx hs (by omega)) rfl rfl (by decide) ?_
  refine pv_vret (pc := 11) dX1_init_11 rfl ?_
  exact ⟨rfl, rfl, rfl, rfl, rfl⟩

set_option maxRecDepth 100000 in
set_option maxHeartbeats 4000000 in
theorem c_init_10_10 {G : pv_G} {d : Nat} {x : Nat} {k n p c : Int32} {t : pv_T} {I : pv_I} {L : pv_L} {Rf : pv_R} (hx : 16 ≤ x) (hs : t.1 x = some (.inr 10)) (hd : 3 ≤ d) : pv_Mt G mX10_init d 0 0 [.ref x, .int k, .int n, .int p, .int c, .ref 20] t I L Rf (pv_is none t (pv_u (pv_u (pv_u (pv_u I x 0 k) x 1 n) x 2 p) x 3 c) L (pv_u Rf x 4 (some 20))) := by
  refine pv_mt mgX10_init.2.2.2.2.2 [.ref x, .int k, .int n, .int p, .int c, .ref 20] rfl (Nat.le_of_ble_eq_true rfl) ?_
  refine pv_aload_0 (pc := 0) dX10_init_0 ?_
  refine pv_iload_1 (pc := 1) dX10_init_1 ?_
  refine pv_iload_2 (pc := 2) dX10_init_2 ?_
  refine pv_iload_3 (pc := 3) dX10_init_3 ?_
  refine pv_iload_4 (pc := 4) dX10_init_4 ?_
  refine pv_aload_5 (pc := 6) dX10_init_6 ?_
  refine pv_callI0 (pc := 8) dX10_init_8 mgX1_init li_X10_1 (by omega) (c_init_10_1 hx hs (by omega)) rfl rfl (by decide) ?_
  refine pv_vret (pc := 11) dX10_init_11 rfl ?_
  exact ⟨rfl, rfl, rfl, rfl, rfl⟩

set_option maxRecDepth 100000 in
set_option maxHeartbeats 4000000 in
theorem c_init_5_3 {G : pv_G} {d : Nat} {x : Nat} {k n p c : Int32} {t : pv_T} {I : pv_I} {L : pv_L} {Rf : pv_R} (hx : 16 ≤ x) (hs : t.1 x = some (.inr 5)) (hd : 1 ≤ d) : pv_Mt G mX3_init d 0 0 [.ref x, .int k, .int n, .int p, .int c, .ref 20] t I L Rf (pv_is none t (pv_u (pv_u (pv_u (pv_u I x 0 k) x 1 n) x 2 p) x 3 c) L (pv_u Rf x 4 (some 20))) := by
  refine pv_mt mgX3_init.2.2.2.2.2 [.ref x, .int k, .int n, .int p, .int c, .ref 20] rfl (Nat.le_of_ble_eq_true rfl) ?_
  refine pv_aload_0 (pc := 0) dX3_init_0 ?_
  refine pv_objInit (pc := 1) dX3_init_1 ol_X3_1 oi_1 oi_2 (by omega) (by decide) ?_
  refine pv_aload_0 (pc := 4) dX3_init_4 ?_
  refine pv_iload_1 (pc := 5) dX3_init_5 ?_
  refine pv_putI (pc := 6) dX3_init_6 fl_X3_7_5 (fun _ => rfl) ⟨rfl, rfl, rfl⟩ hx hs ?_
  refine pv_aload_0 (pc := 9) dX3_init_9 ?_
  refine pv_iload_2 (pc := 10) dX3_init_10 ?_
  refine pv_putI (pc := 11) dX3_init_11 fl_X3_13_5 (fun _ => rfl) ⟨rfl, rfl, rfl⟩ hx hs ?_
  refine pv_aload_0 (pc := 14) dX3_init_14 ?_
  refine pv_iload_3 (pc := 15) dX3_init_15 ?_
  refine pv_putI (pc := 16) dX3_init_16 fl_X3_16_5 (fun _ => rfl) ⟨rfl, rfl, rfl⟩ hx hs ?_
  refine pv_aload_0 (pc := 19) dX3_init_19 ?_
  refine pv_iload_4 (pc := 20) dX3_init_20 ?_
  refine pv_putI (pc := 22) dX3_init_22 fl_X3_19_5 (fun _ => rfl) ⟨rfl, rfl, rfl⟩ hx hs ?_
  refine pv_aload_0 (pc := 25) dX3_init_25 ?_
  refine pv_aload_5 (pc := 26) dX3_init_26 ?_
  refine pv_putR (pc := 28) dX3_init_28 fl_X3_22_5 (fun _ => rfl) rfl hx hs (o := some _) rfl ?_
  refine pv_vret (pc := 31) dX3_init_31 rfl ?_
  exact ⟨rfl, rfl, rfl, rfl, rfl⟩

set_option maxRecDepth 100000 in
set_option maxHeartbeats 4000000 in
theorem c_init_5_1 {G : pv_G} {d : Nat} {x : Nat} {k n p c : Int32} {t : pv_T} {I : pv_I} {L : pv_L} {Rf : pv_R} (hx : 16 ≤ x) (hs : t.1 x = some (.inr 5)) (hd : 2 ≤ d) : pv_Mt G mX1_init d 0 0 [.ref x, .int k, .int n, .int p, .int c, .ref 20] t I L Rf (pv_is none t (pv_u (pv_u (pv_u (pv_u I x 0 k) x 1 n) x 2 p) x 3 c) L (pv_u Rf x 4 (some 20))) := by
  refine pv_mt mgX1_init.2.2.2.2.2 [.ref x, .int k, .int n, .int p, .int c, .ref 20] rfl (Nat.le_of_ble_eq_true rfl) ?_
  refine pv_aload_0 (pc := 0) dX1_init_0 ?_
  refine pv_iload_1 (pc := 1) dX1_init_1 ?_
  refine pv_iload_2 (pc := 2) dX1_init_2 ?_
  refine pv_iload_3 (pc := 3) dX1_init_3 ?_
  refine pv_iload_4 (pc := 4) dX1_init_4 ?_
  refine pv_aload_5 (pc := 6) dX1_init_6 ?_
  refine pv_callI0 (pc := 8) dX1_init_8 mgX3_init li_X1_1 (by omega) (c_init_5_3 hx hs (by omega)) rfl rfl (by decide) ?_
  refine pv_vret (pc := 11) dX1_init_11 rfl ?_
  exact ⟨rfl, rfl, rfl, rfl, rfl⟩

set_option maxRecDepth 100000 in
set_option maxHeartbeats 4000000 in
theorem c_init_5_5 {G : pv_G} {d : Nat} {x : Nat} {k n p c : Int32} {t : pv_T} {I : pv_I} {L : pv_L} {Rf : pv_R} (hx : 16 ≤ x) (hs : t.1 x = some (.inr 5)) (hd : 3 ≤ d) : pv_Mt G mX5_init d 0 0 [.ref x, .int k, .int n, .int p, .int c, .ref 20] t I L Rf (pv_is none t (pv_u (pv_u (pv_u (pv_u I x 0 k) x 1 n) x 2 p) x 3 c) L (pv_u Rf x 4 (some 20))) := by
  refine pv_mt mgX5_init.2.2.2.2.2 [.ref x, .int k, .int n, .int p, .int c, .ref 20] rfl (Nat.le_of_ble_eq_true rfl) ?_
  refine pv_aload_0 (pc := 0) dX5_init_0 ?_
  refine pv_iload_1 (pc := 1) dX5_init_1 ?_
  refine pv_iload_2 (pc := 2) dX5_init_2 ?_
  refine pv_iload_3 (pc := 3) dX5_init_3 ?_
  refine pv_iload_4 (pc := 4) dX5_init_4 ?_
  refine pv_aload_5 (pc := 6) dX5_init_6 ?_
  refine pv_callI0 (pc := 8) dX5_init_8 mgX1_init li_X5_1 (by omega) (c_init_5_1 hx hs (by omega)) rfl rfl (by decide) ?_
  refine pv_vret (pc := 11) dX5_init_11 rfl ?_
  exact ⟨rfl, rfl, rfl, rfl, rfl⟩

set_option maxRecDepth 100000 in
set_option maxHeartbeats 4000000 in
theorem c_init_9_3 {G : pv_G} {d : Nat} {x : Nat} {k n p c : Int32} {t : pv_T} {I : pv_I} {L : pv_L} {Rf : pv_R} (hx : 16 ≤ x) (hs : t.1 x = some (.inr 9)) (hd : 1 ≤ d) : pv_Mt G mX3_init d 0 0 [.ref x, .int k, .int n, .int p, .int c, .ref 20] t I L Rf (pv_is none t (pv_u (pv_u (pv_u (pv_u I x 0 k) x 1 n) x 2 p) x 3 c) L (pv_u Rf x 4 (some 20))) := by
  refine pv_mt mgX3_init.2.2.2.2.2 [.ref x, .int k, .int n, .int p, .int c, .ref 20] rfl (Nat.le_of_ble_eq_true rfl) ?_
  refine pv_aload_0 (pc := 0) dX3_init_0 ?_
  refine pv_objInit (pc := 1) dX3_init_1 ol_X3_1 oi_1 oi_2 (by omega) (by decide) ?_
  refine pv_aload_0 (pc := 4) dX3_init_4 ?_
  refine pv_iload_1 (pc := 5) dX3_init_5 ?_
  refine pv_putI (pc := 6) dX3_init_6 fl_X3_7_9 (fun _ => rfl) ⟨rfl, rfl, rfl⟩ hx hs ?_
  refine pv_aload_0 (pc := 9) dX3_init_9 ?_
  refine pv_iload_2 (pc := 10) dX3_init_10 ?_
  refine pv_putI (pc := 11) dX3_init_11 fl_X3_13_9 (fun _ => rfl) ⟨rfl, rfl, rfl⟩ hx hs ?_
  refine pv_aload_0 (pc := 14) dX3_init_14 ?_
  refine pv_iload_3 (pc := 15) dX3_init_15 ?_
  refine pv_putI (pc := 16) dX3_init_16 fl_X3_16_9 (fun _ => rfl) ⟨rfl, rfl, rfl⟩ hx hs ?_
  refine pv_aload_0 (pc := 19) dX3_init_19 ?_
  refine pv_iload_4 (pc := 20) dX3_init_20 ?_
  refine pv_putI (pc := 22) dX3_init_22 fl_X3_19_9 (fun _ => rfl) ⟨rfl, rfl, rfl⟩ hx hs ?_
  refine pv_aload_0 (pc := 25) dX3_init_25 ?_
  refine pv_aload_5 (pc := 26) dX3_init_26 ?_
  refine pv_putR (pc := 28) dX3_init_28 fl_X3_22_9 (fun _ => rfl) rfl hx hs (o := some _) rfl ?_
  refine pv_vret (pc := 31) dX3_init_31 rfl ?_
  exact ⟨rfl, rfl, rfl, rfl, rfl⟩

set_option maxRecDepth 100000 in
set_option maxHeartbeats 4000000 in
theorem c_init_9_9 {G : pv_G} {d : Nat} {x : Nat} {k n p c : Int32} {t : pv_T} {I : pv_I} {L : pv_L} {Rf : pv_R} (hx : 16 ≤ x) (hs : t.1 x = some (.inr 9)) (hd : 2 ≤ d) : pv_Mt G mX9_init d 0 0 [.ref x, .int k, .int n, .int p, .int c, .ref 20] t I L Rf (pv_is none t (pv_u (pv_u (pv_u (pv_u I x 0 k) x 1 n) x 2 p) x 3 c) L (pv_u Rf x 4 (some 20))) := by
  refine pv_mt mgX9_init.2.2.2.2.2 [.ref x, .int k, .int n, .int p, .int c, .ref 20] rfl (Nat.le_of_ble_eq_true rfl) ?_
  refine pv_aload_0 (pc := 0) dX9_init_0 ?_
  refine pv_iload_1 (pc := 1) dX9_init_1 ?_
  refine pv_iload_2 (pc := 2) dX9_init_2 ?_
  refine pv_iload_3 (pc := 3) dX9_init_3 ?_
  refine pv_iload_4 (pc := 4) dX9_init_4 ?_
  refine pv_aload_5 (pc := 6) dX9_init_6 ?_
  refine pv_callI0 (pc := 8) dX9_init_8 mgX3_init li_X9_1 (by omega) (c_init_9_3 hx hs (by omega)) rfl rfl (by decide) ?_
  refine pv_vret (pc := 11) dX9_init_11 rfl ?_
  exact ⟨rfl, rfl, rfl, rfl, rfl⟩

set_option maxRecDepth 100000 in
set_option maxHeartbeats 4000000 in
theorem c_init_0_3 {G : pv_G} {d : Nat} {x : Nat} {k n p c : Int32} {t : pv_T} {I : pv_I} {L : pv_L} {Rf : pv_R} (hx : 16 ≤ x) (hs : t.1 x = some (.inr 0)) (hd : 1 ≤ d) : pv_Mt G mX3_init d 0 0 [.ref x, .int k, .int n, .int p, .int c, .ref 20] t I L Rf (pv_is none t (pv_u (pv_u (pv_u (pv_u I x 0 k) x 1 n) x 2 p) x 3 c) L (pv_u Rf x 4 (some 20))) := by
  refine pv_mt mgX3_init.2.2.2.2.2 [.ref x, .int k, .int n, .int p, .int c, .ref 20] rfl (Nat.le_of_ble_eq_true rfl) ?_
  refine pv_aload_0 (pc := 0) dX3_init_0 ?_
  refine pv_objInit (pc := 1) dX3_init_1 ol_X3_1 oi_1 oi_2 (by omega) (by decide) ?_
  refine pv_aload_0 (pc := 4) dX3_init_4 ?_
  refine pv_iload_1 (pc := 5) dX3_init_5 ?_
  refine pv_putI (pc := 6) dX3_init_6 fl_X3_7_0 (fun _ => rfl) ⟨rfl, rfl, rfl⟩ hx hs ?_
  refine pv_aload_0 (pc := 9) dX3_init_9 ?_
  refine pv_iload_2 (pc := 10) dX3_init_10 ?_
  refine pv_putI (pc := 11) dX3_init_11 fl_X3_13_0 (fun _ => rfl) ⟨rfl, rfl, rfl⟩ hx hs ?_
  refine pv_aload_0 (pc := 14) dX3_init_14 ?_
  refine pv_iload_3 (pc := 15) dX3_init_15 ?_
  refine pv_putI (pc := 16) dX3_init_16 fl_X3_16_0 (fun _ => rfl) ⟨rfl, rfl, rfl⟩ hx hs ?_
  refine pv_aload_0 (pc := 19) dX3_init_19 ?_
  refine pv_iload_4 (pc := 20) dX3_init_20 ?_
  refine pv_putI (pc := 22) dX3_init_22 fl_X3_19_0 (fun _ => rfl) ⟨rfl, rfl, rfl⟩ hx hs ?_
  refine pv_aload_0 (pc := 25) dX3_init_25 ?_
  refine pv_aload_5 (pc := 26) dX3_init_26 ?_
  refine pv_putR (pc := 28) dX3_init_28 fl_X3_22_0 (fun _ => rfl) rfl hx hs (o := some _) rfl ?_
  refine pv_vret (pc := 31) dX3_init_31 rfl ?_
  exact ⟨rfl, rfl, rfl, rfl, rfl⟩

set_option maxRecDepth 100000 in
set_option maxHeartbeats 4000000 in
theorem c_init_0_9 {G : pv_G} {d : Nat} {x : Nat} {k n p c : Int32} {t : pv_T} {I : pv_I} {L : pv_L} {Rf : pv_R} (hx : 16 ≤ x) (hs : t.1 x = some (.inr 0)) (hd : 2 ≤ d) : pv_Mt G mX9_init d 0 0 [.ref x, .int k, .int n, .int p, .int c, .ref 20] t I L Rf (pv_is none t (pv_u (pv_u (pv_u (pv_u I x 0 k) x 1 n) x 2 p) x 3 c) L (pv_u Rf x 4 (some 20))) := by
  refine pv_mt mgX9_init.2.2.2.2.2 [.ref x, .int k, .int n, .int p, .int c, .ref 20] rfl (Nat.le_of_ble_eq_true rfl) ?_
  refine pv_aload_0 (pc := 0) dX9_init_0 ?_
  refine pv_iload_1 (pc := 1) dX9_init_1 ?_
  refine pv_iload_2 (pc := 2) dX9_init_2 ?_
  refine pv_iload_3 (pc := 3) dX9_init_3 ?_
  refine pv_iload_4 (pc := 4) dX9_init_4 ?_
  refine pv_aload_5 (pc := 6) dX9_init_6 ?_
  refine pv_callI0 (pc := 8) dX9_init_8 mgX3_init li_X9_1 (by omega) (c_init_0_3 hx hs (by omega)) rfl rfl (by decide) ?_
  refine pv_vret (pc := 11) dX9_init_11 rfl ?_
  exact ⟨rfl, rfl, rfl, rfl, rfl⟩

set_option maxRecDepth 100000 in
set_option maxHeartbeats 4000000 in
theorem c_init_0_0 {G : pv_G} {d : Nat} {x : Nat} {k n p c : Int32} {t : pv_T} {I : pv_I} {L : pv_L} {Rf : pv_R} (hx : 16 ≤ x) (hs : t.1 x = some (.inr 0)) (hd : 3 ≤ d) : pv_Mt G mX0_init d 0 0 [.ref x, .int k, .int n, .int p, .int c, .ref 20] t I L Rf (pv_is none t (pv_u (pv_u (pv_u (pv_u I x 0 k) x 1 n) x 2 p) x 3 c) L (pv_u Rf x 4 (some 20))) := by
  refine pv_mt mgX0_init.2.2.2.2.2 [.ref x, .int k, .int n, .int p, .int c, .ref 20] rfl (Nat.le_of_ble_eq_true rfl) ?_
  refine pv_aload_0 (pc := 0) dX0_init_0 ?_
  refine pv_iload_1 (pc := 1) dX0_init_1 ?_
  refine pv_iload_2 (pc := 2) dX0_init_2 ?_
  refine pv_iload_3 (pc := 3) dX0_init_3 ?_
  refine pv_iload_4 (pc := 4) dX0_init_4 ?_
  refine pv_aload_5 (pc := 6) dX0_init_6 ?_
  refine pv_callI0 (pc := 8) dX0_init_8 mgX9_init li_X0_1 (by omega) (c_init_0_9 hx hs (by omega)) rfl rfl (by decide) ?_
  refine pv_vret (pc := 11) dX0_init_11 rfl ?_
  exact ⟨rfl, rfl, rfl, rfl, rfl⟩

set_option maxRecDepth 100000 in
set_option maxHeartbeats 4000000 in
theorem c_init_6_3 {G : pv_G} {d : Nat} {x : Nat} {k n p c : Int32} {t : pv_T} {I : pv_I} {L : pv_L} {Rf : pv_R} (hx : 16 ≤ x) (hs : t.1 x = some (.inr 6)) (hd : 1 ≤ d) : pv_Mt G mX3_init d 0 0 [.ref x, .int k, .int n, .int p, .int c, .ref 20] t I L Rf (pv_is none t (pv_u (pv_u (pv_u (pv_u I x 0 k) x 1 n) x 2 p) x 3 c) L (pv_u Rf x 4 (some 20))) := by
  refine pv_mt mgX3_init.2.2.2.2.2 [.ref x, .int k, .int n, .int p, .int c, .ref 20] rfl (Nat.le_of_ble_eq_true rfl) ?_
  refine pv_aload_0 (pc := 0) dX3_init_0 ?_
  refine pv_objInit (pc := 1) dX3_init_1 ol_X3_1 oi_1 oi_2 (by omega) (by decide) ?_
  refine pv_aload_0 (pc := 4) dX3_init_4 ?_
  refine pv_iload_1 (pc := 5) dX3_init_5 ?_
  refine pv_putI (pc := 6) dX3_init_6 fl_X3_7_6 (fun _ => rfl) ⟨rfl, rfl, rfl⟩ hx hs ?_
  refine pv_aload_0 (pc := 9) dX3_init_9 ?_
  refine pv_iload_2 (pc := 10) dX3_init_10 ?_
  refine pv_putI (pc := 11) dX3_init_11 fl_X3_13_6 (fun _ => rfl) ⟨rfl, rfl, rfl⟩ hx hs ?_
  refine pv_aload_0 (pc := 14) dX3_init_14 ?_
  refine pv_iload_3 (pc := 15) dX3_init_15 ?_
  refine pv_putI (pc := 16) dX3_init_16 fl_X3_16_6 (fun _ => rfl) ⟨rfl, rfl, rfl⟩ hx hs ?_
  refine pv_aload_0 (pc := 19) dX3_init_19 ?_
  refine pv_iload_4 (pc := 20) dX3_init_20 ?_
  refine pv_putI (pc := 22) dX3_init_22 fl_X3_19_6 (fun _ => rfl) ⟨rfl, rfl, rfl⟩ hx hs ?_
  refine pv_aload_0 (pc := 25) dX3_init_25 ?_
  refine pv_aload_5 (pc := 26) dX3_init_26 ?_
  refine pv_putR (pc := 28) dX3_init_28 fl_X3_22_6 (fun _ => rfl) rfl hx hs (o := some _) rfl ?_
  refine pv_vret (pc := 31) dX3_init_31 rfl ?_
  exact ⟨rfl, rfl, rfl, rfl, rfl⟩

set_option maxRecDepth 100000 in
set_option maxHeartbeats 4000000 in
theorem c_init_6_9 {G : pv_G} {d : Nat} {x : Nat} {k n p c : Int32} {t : pv_T} {I : pv_I} {L : pv_L} {Rf : pv_R} (hx : 16 ≤ x) (hs : t.1 x = some (.inr 6)) (hd : 2 ≤ d) : pv_Mt G mX9_init d 0 0 [.ref x, .int k, .int n, .int p, .int c, .ref 20] t I L Rf (pv_is none t (pv_u (pv_u (pv_u (pv_u I x 0 k) x 1 n) x 2 p) x 3 c) L (pv_u Rf x 4 (some 20))) := by
  refine pv_mt mgX9_init.2.2.2.2.2 [.ref x, .int k, .int n, .int p, .int c, .ref 20] rfl (Nat.le_of_ble_eq_true rfl) ?_
  refine pv_aload_0 (pc := 0) dX9_init_0 ?_
  refine pv_iload_1 (pc := 1) dX9_init_1 ?_
  refine pv_iload_2 (pc := 2) dX9_init_2 ?_
  refine pv_iload_3 (pc := 3) dX9_init_3 ?_
  refine pv_iload_4 (pc := 4) dX9_init_4 ?_
  refine pv_aload_5 (pc := 6) dX9_init_6 ?_
  refine pv_callI0 (pc := 8) dX9_init_8 mgX3_init li_X9_1 (by omega) (c_init_6_3 hx hs (by omega)) rfl rfl (by decide) ?_
  refine pv_vret (pc := 11) dX9_init_11 rfl ?_
  exact ⟨rfl, rfl, rfl, rfl, rfl⟩

set_option maxRecDepth 100000 in
set_option maxHeartbeats 4000000 in
theorem c_init_6_6 {G : pv_G} {d : Nat} {x : Nat} {k n p c : Int32} {t : pv_T} {I : pv_I} {L : pv_L} {Rf : pv_R} (hx : 16 ≤ x) (hs : t.1 x = some (.inr 6)) (hd : 3 ≤ d) : pv_Mt G mX6_init d 0 0 [.ref x, .int k, .int n, .int p, .int c, .ref 20] t I L Rf (pv_is none t (pv_u (pv_u (pv_u (pv_u I x 0 k) x 1 n) x 2 p) x 3 c) L (pv_u Rf x 4 (some 20))) := by
  refine pv_mt mgX6_init.2.2.2.2.2 [.ref x, .int k, .int n, .int p, .int c, .ref 20] rfl (Nat.le_of_ble_eq_true rfl) ?_
  refine pv_aload_0 (pc := 0) dX6_init_0 ?_
  refine pv_iload_1 (pc := 1) dX6_init_1 ?_
  refine pv_iload_2 (pc := 2) dX6_init_2 ?_
  refine pv_iload_3 (pc := 3) dX6_init_3 ?_
  refine pv_iload_4 (pc := 4) dX6_init_4 ?_
  refine pv_aload_5 (pc := 6) dX6_init_6 ?_
  refine pv_callI0 (pc := 8) dX6_init_8 mgX9_init li_X6_1 (by omega) (c_init_6_9 hx hs (by omega)) rfl rfl (by decide) ?_
  refine pv_vret (pc := 11) dX6_init_11 rfl ?_
  exact ⟨rfl, rfl, rfl, rfl, rfl⟩

set_option maxRecDepth 100000 in
set_option maxHeartbeats 4000000 in
theorem c_newf_0 {G : pv_G} {d : Nat} {n p c : Int32} {t : pv_T} {I : pv_I} {L : pv_L} {Rf : pv_R} (hT : sh_ok t) (hR : rf_ok Rf) (hd : 4 ≤ d) : pv_Mt G mX11_newFigure d 1 5 [.ref 16, .int 0, .int n, .int p, .int c] t I L Rf (pv_is (some (.ref t.2)) (pv_tn t (.inr 3)) (x_nI I t.2 0 n p c) (x_nL L t.2) (x_nR Rf t.2)) := by
  have hT0 := hT
  refine pv_mt mgX11_newFigure.2.2.2.2.2 [.ref 16, .int 0, .int n, .int p, .int c] rfl (Nat.le_of_ble_eq_true rfl) ?_
  refine pv_iload_1 (pc := 0) dX11_newFigure_0 ?_
  refine pv_tab6 (pc := 1) dX11_newFigure_1 (t0 := 40) (t1 := 57) (t2 := 74) (t3 := 91) (t4 := 108) (t5 := 125) (t6 := 142) (by decide) (by decide) (by decide) (by decide) (by decide) (by decide) (by decide) (fun h1_0 => absurd h1_0 (by decide)) (fun h1_1 => absurd h1_1 (by decide)) (fun h1_2 => absurd h1_2 (by decide)) (fun h1_3 => absurd h1_3 (by decide)) (fun h1_4 => absurd h1_4 (by decide)) (fun h1_5 => absurd h1_5 (by decide)) (fun h1_6 => ?_)
  have h90 := hT.1
  have hA : pv_al 0 t Rf (pv_tn t (.inr 3)) (pv_ur Rf t.2 fun _ => none) := pv_al.tn (fun a j ha _ => by rw [pv_ur_ne _ _ (by omega)])
  refine pv_new (pc := 142) (ci := 3) (bc := 0) (bs := 0) (r := (RX3, TX3, 5)) dX11_newFigure_142 rfl cl_X11_15 in_X3 ii_X3 (by decide) ?_
  have hT := hA.sh hT
  have hR := hA.re hT0 hR
  refine pv_dup (pc := 145) dX11_newFigure_145 rfl ?_
  refine pv_iload_1 (pc := 146) dX11_newFigure_146 ?_
  refine pv_iload_2 (pc := 147) dX11_newFigure_147 ?_
  refine pv_iload_3 (pc := 148) dX11_newFigure_148 ?_
  refine pv_iload_4 (pc := 149) dX11_newFigure_149 ?_
  refine pv_aload_0 (pc := 151) dX11_newFigure_151 ?_
  refine pv_getR (pc := 152) dX11_newFigure_152 fg_X11_25_11 rfl (by decide) (sx_16 hT) (rx_16_3 hR) ?_
  refine pv_callI0 (pc := 155) dX11_newFigure_155 mgX3_init li_X11_397 (by omega) (c_init_3_3 (by omega) pv_tn_x (by omega)) rfl rfl (Nat.le_of_ble_eq_true rfl) ?_
  refine pv_aret (pc := 158) dX11_newFigure_158 (Or.inr ⟨_, rfl⟩) rfl (Or.inl ⟨_, rfl⟩) ?_
  exact ⟨rfl, rfl, rfl, rfl, rfl⟩

set_option maxRecDepth 100000 in
set_option maxHeartbeats 4000000 in
theorem c_newf_1 {G : pv_G} {d : Nat} {n p c : Int32} {t : pv_T} {I : pv_I} {L : pv_L} {Rf : pv_R} (hT : sh_ok t) (hR : rf_ok Rf) (hd : 4 ≤ d) : pv_Mt G mX11_newFigure d 1 5 [.ref 16, .int 1, .int n, .int p, .int c] t I L Rf (pv_is (some (.ref t.2)) (pv_tn t (.inr 1)) (x_nI I t.2 1 n p c) (x_nL L t.2) (x_nR Rf t.2)) := by
  have hT0 := hT
  refine pv_mt mgX11_newFigure.2.2.2.2.2 [.ref 16, .int 1, .int n, .int p, .int c] rfl (Nat.le_of_ble_eq_true rfl) ?_
  refine pv_iload_1 (pc := 0) dX11_newFigure_0 ?_
  refine pv_tab6 (pc := 1) dX11_newFigure_1 (t0 := 40) (t1 := 57) (t2 := 74) (t3 := 91) (t4 := 108) (t5 := 125) (t6 := 142) (by decide) (by decide) (by decide) (by decide) (by decide) (by decide) (by decide) (fun h1_0 => ?_) (fun h1_1 => absurd h1_1 (by decide)) (fun h1_2 => absurd h1_2 (by decide)) (fun h1_3 => absurd h1_3 (by decide)) (fun h1_4 => absurd h1_4 (by decide)) (fun h1_5 => absurd h1_5 (by decide)) (fun h1_6 => absurd h1_6 (by decide))
  have h90 := hT.1
  have hA : pv_al 0 t Rf (pv_tn t (.inr 1)) (pv_ur Rf t.2 fun _ => none) := pv_al.tn (fun a j ha _ => by rw [pv_ur_ne _ _ (by omega)])
  refine pv_new (pc := 40) (ci := 1) (bc := 0) (bs := 0) (r := (RX1, TX1, 5)) dX11_newFigure_40 rfl cl_X11_377 in_X1 ii_X1 (by decide) ?_
  have hT := hA.sh hT
  have hR := hA.re hT0 hR
  refine pv_dup (pc := 43) dX11_newFigure_43 rfl ?_
  refine pv_iload_1 (pc := 44) dX11_newFigure_44 ?_
  refine pv_iload_2 (pc := 45) dX11_newFigure_45 ?_
  refine pv_iload_3 (pc := 46) dX11_newFigure_46 ?_
  refine pv_iload_4 (pc := 47) dX11_newFigure_47 ?_
  refine pv_aload_0 (pc := 49) dX11_newFigure_49 ?_
  refine pv_getR (pc := 50) dX11_newFigure_50 fg_X11_25_11 rfl (by decide) (sx_16 hT) (rx_16_3 hR) ?_
  refine pv_callI0 (pc := 53) dX11_newFigure_53 mgX1_init li_X11_379 (by omega) (c_init_1_1 (by omega) pv_tn_x (by omega)) rfl rfl (Nat.le_of_ble_eq_true rfl) ?_
  refine pv_aret (pc := 56) dX11_newFigure_56 (Or.inr ⟨_, rfl⟩) rfl (Or.inl ⟨_, rfl⟩) ?_
  exact ⟨rfl, rfl, rfl, rfl, rfl⟩

set_option maxRecDepth 100000 in
set_option maxHeartbeats 4000000 in
theorem c_newf_2 {G : pv_G} {d : Nat} {n p c : Int32} {t : pv_T} {I : pv_I} {L : pv_L} {Rf : pv_R} (hT : sh_ok t) (hR : rf_ok Rf) (hd : 4 ≤ d) : pv_Mt G mX11_newFigure d 1 5 [.ref 16, .int 2, .int n, .int p, .int c] t I L Rf (pv_is (some (.ref t.2)) (pv_tn t (.inr 10)) (x_nI I t.2 2 n p c) (x_nL L t.2) (x_nR Rf t.2)) := by
  have hT0 := hT
  refine pv_mt mgX11_newFigure.2.2.2.2.2 [.ref 16, .int 2, .int n, .int p, .int c] rfl (Nat.le_of_ble_eq_true rfl) ?_
  refine pv_iload_1 (pc := 0) dX11_newFigure_0 ?_
  refine pv_tab6 (pc := 1) dX11_newFigure_1 (t0 := 40) (t1 := 57) (t2 := 74) (t3 := 91) (t4 := 108) (t5 := 125) (t6 := 142) (by decide) (by decide) (by decide) (by decide) (by decide) (by decide) (by decide) (fun h1_0 => absurd h1_0 (by decide)) (fun h1_1 => ?_) (fun h1_2 => absurd h1_2 (by decide)) (fun h1_3 => absurd h1_3 (by decide)) (fun h1_4 => absurd h1_4 (by decide)) (fun h1_5 => absurd h1_5 (by decide)) (fun h1_6 => absurd h1_6 (by decide))
  have h90 := hT.1
  have hA : pv_al 0 t Rf (pv_tn t (.inr 10)) (pv_ur Rf t.2 fun _ => none) := pv_al.tn (fun a j ha _ => by rw [pv_ur_ne _ _ (by omega)])
  refine pv_new (pc := 57) (ci := 10) (bc := 0) (bs := 0) (r := (RX10, TX10, 5)) dX11_newFigure_57 rfl cl_X11_382 in_X10 ii_X10 (by decide) ?_
  have hT := hA.sh hT
  have hR := hA.re hT0 hR
  refine pv_dup (pc := 60) dX11_newFigure_60 rfl ?_
  refine pv_iload_1 (pc := 61) dX11_newFigure_61 ?_
  refine pv_iload_2 (pc := 62) dX11_newFigure_62 ?_
  refine pv_iload_3 (pc := 63) dX11_newFigure_63 ?_
  refine pv_iload_4 (pc := 64) dX11_newFigure_64 ?_
  refine pv_aload_0 (pc := 66) dX11_newFigure_66 ?_
  refine pv_getR (pc := 67) dX11_newFigure_67 fg_X11_25_11 rfl (by decide) (sx_16 hT) (rx_16_3 hR) ?_
  refine pv_callI0 (pc := 70) dX11_newFigure_70 mgX10_init li_X11_384 (by omega) (c_init_10_10 (by omega) pv_tn_x (by omega)) rfl rfl (Nat.le_of_ble_eq_true rfl) ?_
  refine pv_aret (pc := 73) dX11_newFigure_73 (Or.inr ⟨_, rfl⟩) rfl (Or.inl ⟨_, rfl⟩) ?_
  exact ⟨rfl, rfl, rfl, rfl, rfl⟩

set_option maxRecDepth 100000 in
set_option maxHeartbeats 4000000 in
theorem c_newf_3 {G : pv_G} {d : Nat} {n p c : Int32} {t : pv_T} {I : pv_I} {L : pv_L} {Rf : pv_R} (hT : sh_ok t) (hR : rf_ok Rf) (hd : 4 ≤ d) : pv_Mt G mX11_newFigure d 1 5 [.ref 16, .int 3, .int n, .int p, .int c] t I L Rf (pv_is (some (.ref t.2)) (pv_tn t (.inr 5)) (x_nI I t.2 3 n p c) (x_nL L t.2) (x_nR Rf t.2)) := by
  have hT0 := hT
  refine pv_mt mgX11_newFigure.2.2.2.2.2 [.ref 16, .int 3, .int n, .int p, .int c] rfl (Nat.le_of_ble_eq_true rfl) ?_
  refine pv_iload_1 (pc := 0) dX11_newFigure_0 ?_
  refine pv_tab6 (pc := 1) dX11_newFigure_1 (t0 := 40) (t1 := 57) (t2 := 74) (t3 := 91) (t4 := 108) (t5 := 125) (t6 := 142) (by decide) (by decide) (by decide) (by decide) (by decide) (by decide) (by decide) (fun h1_0 => absurd h1_0 (by decide)) (fun h1_1 => absurd h1_1 (by decide)) (fun h1_2 => ?_) (fun h1_3 => absurd h1_3 (by decide)) (fun h1_4 => absurd h1_4 (by decide)) (fun h1_5 => absurd h1_5 (by decide)) (fun h1_6 => absurd h1_6 (by decide))
  have h90 := hT.1
  have hA : pv_al 0 t Rf (pv_tn t (.inr 5)) (pv_ur Rf t.2 fun _ => none) := pv_al.tn (fun a j ha _ => by rw [pv_ur_ne _ _ (by omega)])
  refine pv_new (pc := 74) (ci := 5) (bc := 0) (bs := 0) (r := (RX5, TX5, 5)) dX11_newFigure_74 rfl cl_X11_385 in_X5 ii_X5 (by decide) ?_
  have hT := hA.sh hT
  have hR := hA.re hT0 hR
  refine pv_dup (pc := 77) dX11_newFigure_77 rfl ?_
  refine pv_iload_1 (pc := 78) dX11_newFigure_78 ?_
  refine pv_iload_2 (pc := 79) dX11_newFigure_79 ?_
  refine pv_iload_3 (pc := 80) dX11_newFigure_80 ?_
  refine pv_iload_4 (pc := 81) dX11_newFigure_81 ?_
  refine pv_aload_0 (pc := 83) dX11_newFigure_83 ?_
  refine pv_getR (pc := 84) dX11_newFigure_84 fg_X11_25_11 rfl (by decide) (sx_16 hT) (rx_16_3 hR) ?_
  refine pv_callI0 (pc := 87) dX11_newFigure_87 mgX5_init li_X11_387 (by omega) (c_init_5_5 (by omega) pv_tn_x (by omega)) rfl rfl (Nat.le_of_ble_eq_true rfl) ?_
  refine pv_aret (pc := 90) dX11_newFigure_90 (Or.inr ⟨_, rfl⟩) rfl (Or.inl ⟨_, rfl⟩) ?_
  exact ⟨rfl, rfl, rfl, rfl, rfl⟩

set_option maxRecDepth 100000 in
set_option maxHeartbeats 4000000 in
theorem c_newf_4 {G : pv_G} {d : Nat} {n p c : Int32} {t : pv_T} {I : pv_I} {L : pv_L} {Rf : pv_R} (hT : sh_ok t) (hR : rf_ok Rf) (hd : 4 ≤ d) : pv_Mt G mX11_newFigure d 1 5 [.ref 16, .int 4, .int n, .int p, .int c] t I L Rf (pv_is (some (.ref t.2)) (pv_tn t (.inr 9)) (x_nI I t.2 4 n p c) (x_nL L t.2) (x_nR Rf t.2)) := by
  have hT0 := hT
  refine pv_mt mgX11_newFigure.2.2.2.2.2 [.ref 16, .int 4, .int n, .int p, .int c] rfl (Nat.le_of_ble_eq_true rfl) ?_
  refine pv_iload_1 (pc := 0) dX11_newFigure_0 ?_
  refine pv_tab6 (pc := 1) dX11_newFigure_1 (t0 := 40) (t1 := 57) (t2 := 74) (t3 := 91) (t4 := 108) (t5 := 125) (t6 := 142) (by decide) (by decide) (by decide) (by decide) (by decide) (by decide) (by decide) (fun h1_0 => absurd h1_0 (by decide)) (fun h1_1 => absurd h1_1 (by decide)) (fun h1_2 => absurd h1_2 (by decide)) (fun h1_3 => ?_) (fun h1_4 => absurd h1_4 (by decide)) (fun h1_5 => absurd h1_5 (by decide)) (fun h1_6 => absurd h1_6 (by decide))
  have h90 := hT.1
  have hA : pv_al 0 t Rf (pv_tn t (.inr 9)) (pv_ur Rf t.2 fun _ => none) := pv_al.tn (fun a j ha _ => by rw [pv_ur_ne _ _ (by omega)])
  refine pv_new (pc := 91) (ci := 9) (bc := 0) (bs := 0) (r := (RX9, TX9, 5)) dX11_newFigure_91 rfl cl_X11_388 in_X9 ii_X9 (by decide) ?_
  have hT := hA.sh hT
  have hR := hA.re hT0 hR
  refine pv_dup (pc := 94) dX11_newFigure_94 rfl ?_
  refine pv_iload_1 (pc := 95) dX11_newFigure_95 ?_
  refine pv_iload_2 (pc := 96) dX11_newFigure_96 ?_
  refine pv_iload_3 (pc := 97) dX11_newFigure_97 ?_
  refine pv_iload_4 (pc := 98) dX11_newFigure_98 ?_
  refine pv_aload_0 (pc := 100) dX11_newFigure_100 ?_
  refine pv_getR (pc := 101) dX11_newFigure_101 fg_X11_25_11 rfl (by decide) (sx_16 hT) (rx_16_3 hR) ?_
  refine pv_callI0 (pc := 104) dX11_newFigure_104 mgX9_init li_X11_390 (by omega) (c_init_9_9 (by omega) pv_tn_x (by omega)) rfl rfl (Nat.le_of_ble_eq_true rfl) ?_
  refine pv_aret (pc := 107) dX11_newFigure_107 (Or.inr ⟨_, rfl⟩) rfl (Or.inl ⟨_, rfl⟩) ?_
  exact ⟨rfl, rfl, rfl, rfl, rfl⟩

set_option maxRecDepth 100000 in
set_option maxHeartbeats 4000000 in
theorem c_newf_5 {G : pv_G} {d : Nat} {n p c : Int32} {t : pv_T} {I : pv_I} {L : pv_L} {Rf : pv_R} (hT : sh_ok t) (hR : rf_ok Rf) (hd : 4 ≤ d) : pv_Mt G mX11_newFigure d 1 5 [.ref 16, .int 5, .int n, .int p, .int c] t I L Rf (pv_is (some (.ref t.2)) (pv_tn t (.inr 0)) (x_nI I t.2 5 n p c) (x_nL L t.2) (x_nR Rf t.2)) := by
  have hT0 := hT
  refine pv_mt mgX11_newFigure.2.2.2.2.2 [.ref 16, .int 5, .int n, .int p, .int c] rfl (Nat.le_of_ble_eq_true rfl) ?_
  refine pv_iload_1 (pc := 0) dX11_newFigure_0 ?_
  refine pv_tab6 (pc := 1) dX11_newFigure_1 (t0 := 40) (t1 := 57) (t2 := 74) (t3 := 91) (t4 := 108) (t5 := 125) (t6 := 142) (by decide) (by decide) (by decide) (by decide) (by decide) (by decide) (by decide) (fun h1_0 => absurd h1_0 (by decide)) (fun h1_1 => absurd h1_1 (by decide)) (fun h1_2 => absurd h1_2 (by decide)) (fun h1_3 => absurd h1_3 (by decide)) (fun h1_4 => ?_) (fun h1_5 => absurd h1_5 (by decide)) (fun h1_6 => absurd h1_6 (by decide))
  have h90 := hT.1
  have hA : pv_al 0 t Rf (pv_tn t (.inr 0)) (pv_ur Rf t.2 fun _ => none) := pv_al.tn (fun a j ha _ => by rw [pv_ur_ne _ _ (by omega)])
  refine pv_new (pc := 108) (ci := 0) (bc := 0) (bs := 0) (r := (RX0, TX0, 5)) dX11_newFigure_108 rfl cl_X11_391 in_X0 ii_X0 (by decide) ?_
  have hT := hA.sh hT
  have hR := hA.re hT0 hR
  refine pv_dup (pc := 111) dX11_newFigure_111 rfl ?_
  refine pv_iload_1 (pc := 112) dX11_newFigure_112 ?_
  refine pv_iload_2 (pc := 113) dX11_newFigure_113 ?_
  refine pv_iload_3 (pc := 114) dX11_newFigure_114 ?_
  refine pv_iload_4 (pc := 115) dX11_newFigure_115 ?_
  refine pv_aload_0 (pc := 117) dX11_newFigure_117 ?_
  refine pv_getR (pc := 118) dX11_newFigure_118 fg_X11_25_11 rfl (by decide) (sx_16 hT) (rx_16_3 hR) ?_
  refine pv_callI0 (pc := 121) dX11_newFigure_121 mgX0_init li_X11_393 (by omega) (c_init_0_0 (by omega) pv_tn_x (by omega)) rfl rfl (Nat.le_of_ble_eq_true rfl) ?_
  refine pv_aret (pc := 124) dX11_newFigure_124 (Or.inr ⟨_, rfl⟩) rfl (Or.inl ⟨_, rfl⟩) ?_
  exact ⟨rfl, rfl, rfl, rfl, rfl⟩

set_option maxRecDepth 100000 in
set_option maxHeartbeats 4000000 in
theorem c_newf_6 {G : pv_G} {d : Nat} {n p c : Int32} {t : pv_T} {I : pv_I} {L : pv_L} {Rf : pv_R} (hT : sh_ok t) (hR : rf_ok Rf) (hd : 4 ≤ d) : pv_Mt G mX11_newFigure d 1 5 [.ref 16, .int 6, .int n, .int p, .int c] t I L Rf (pv_is (some (.ref t.2)) (pv_tn t (.inr 6)) (x_nI I t.2 6 n p c) (x_nL L t.2) (x_nR Rf t.2)) := by
  have hT0 := hT
  refine pv_mt mgX11_newFigure.2.2.2.2.2 [.ref 16, .int 6, .int n, .int p, .int c] rfl (Nat.le_of_ble_eq_true rfl) ?_
  refine pv_iload_1 (pc := 0) dX11_newFigure_0 ?_
  refine pv_tab6 (pc := 1) dX11_newFigure_1 (t0 := 40) (t1 := 57) (t2 := 74) (t3 := 91) (t4 := 108) (t5 := 125) (t6 := 142) (by decide) (by decide) (by decide) (by decide) (by decide) (by decide) (by decide) (fun h1_0 => absurd h1_0 (by decide)) (fun h1_1 => absurd h1_1 (by decide)) (fun h1_2 => absurd h1_2 (by decide)) (fun h1_3 => absurd h1_3 (by decide)) (fun h1_4 => absurd h1_4 (by decide)) (fun h1_5 => ?_) (fun h1_6 => absurd h1_6 (by decide))
  have h90 := hT.1
  have hA : pv_al 0 t Rf (pv_tn t (.inr 6)) (pv_ur Rf t.2 fun _ => none) := pv_al.tn (fun a j ha _ => by rw [pv_ur_ne _ _ (by omega)])
  refine pv_new (pc := 125) (ci := 6) (bc := 0) (bs := 0) (r := (RX6, TX6, 5)) dX11_newFigure_125 rfl cl_X11_394 in_X6 ii_X6 (by decide) ?_
  have hT := hA.sh hT
  have hR := hA.re hT0 hR
  refine pv_dup (pc := 128) dX11_newFigure_128 rfl ?_
  refine pv_iload_1 (pc := 129) dX11_newFigure_129 ?_
  refine pv_iload_2 (pc := 130) dX11_newFigure_130 ?_
  refine pv_iload_3 (pc := 131) dX11_newFigure_131 ?_
  refine pv_iload_4 (pc := 132) dX11_newFigure_132 ?_
  refine pv_aload_0 (pc := 134) dX11_newFigure_134 ?_
  refine pv_getR (pc := 135) dX11_newFigure_135 fg_X11_25_11 rfl (by decide) (sx_16 hT) (rx_16_3 hR) ?_
  refine pv_callI0 (pc := 138) dX11_newFigure_138 mgX6_init li_X11_396 (by omega) (c_init_6_6 (by omega) pv_tn_x (by omega)) rfl rfl (Nat.le_of_ble_eq_true rfl) ?_
  refine pv_aret (pc := 141) dX11_newFigure_141 (Or.inr ⟨_, rfl⟩) rfl (Or.inl ⟨_, rfl⟩) ?_
  exact ⟨rfl, rfl, rfl, rfl, rfl⟩

theorem c_newf {G : pv_G} {d : Nat} {k n p c : Int32} {t : pv_T} {I : pv_I} {L : pv_L} {Rf : pv_R} (hT : sh_ok t) (hR : rf_ok Rf) (hk : 0 ≤ k.toInt ∧ k.toInt ≤ 6) (hd : 4 ≤ d) : pv_Mt G mX11_newFigure d 1 5 [.ref 16, .int k, .int n, .int p, .int c] t I L Rf (pv_is (some (.ref t.2)) (pv_tn t (.inr (fcls k))) (x_nI I t.2 k n p c) (x_nL L t.2) (x_nR Rf t.2)) := by
  rcases fcls_k hk with ⟨rfl, hc⟩ | ⟨rfl, hc⟩ | ⟨rfl, hc⟩ | ⟨rfl, hc⟩ | ⟨rfl, hc⟩ | ⟨rfl, hc⟩ | ⟨rfl, hc⟩
  · rw [hc]; exact c_newf_0 hT hR hd
  · rw [hc]; exact c_newf_1 hT hR hd
  · rw [hc]; exact c_newf_2 hT hR hd
  · rw [hc]; exact c_newf_3 hT hR hd
  · rw [hc]; exact c_newf_4 hT hR hd
  · rw [hc]; exact c_newf_5 hT hR hd
  · rw [hc]; exact c_newf_6 hT hR hd
theorem x_as {G : pv_G} {d mc ms bc bs pc : Nat} {Q : pv_Q} {ls st : List Value} {t : pv_T} {I : pv_I} {L : pv_L} {Rf : pv_R} {M : pv_Mth} {x : Nat} {k i : Int32} (hd : decode M.2.1 pc = .ok (.aastore, 1)) (hT : sh_ok t) (hx : 16 ≤ x) (hk : 0 ≤ k.toInt ∧ k.toInt ≤ 6) (hs : t.1 x = some (.inr (fcls k))) (hi : vp_in i 8) (g : pv_V G M d mc ms Q bc bs (pc + 1) ls st t I L (pv_u Rf 18 i.toNatClampNeg (some x))) : pv_V G M d mc ms Q bc bs pc ls (.ref x :: .int i :: .ref 18 :: st) t I L Rf := by
  rcases fcls_k hk with ⟨-, hc⟩ | ⟨-, hc⟩ | ⟨-, hc⟩ | ⟨-, hc⟩ | ⟨-, hc⟩ | ⟨-, hc⟩ | ⟨-, hc⟩ <;> rw [hc] at hs
  · exact pv_aastore (r := (RX3, TX3, 5)) hd (by decide) (sx_18 hT) hx hs rfl (Or.inl rfl) hi g
  · exact pv_aastore (r := (RX1, TX1, 5)) hd (by decide) (sx_18 hT) hx hs rfl (Or.inr ca_X1_X3) hi g
  · exact pv_aastore (r := (RX10, TX10, 5)) hd (by decide) (sx_18 hT) hx hs rfl (Or.inr ca_X10_X3) hi g
  · exact pv_aastore (r := (RX5, TX5, 5)) hd (by decide) (sx_18 hT) hx hs rfl (Or.inr ca_X5_X3) hi g
  · exact pv_aastore (r := (RX9, TX9, 5)) hd (by decide) (sx_18 hT) hx hs rfl (Or.inr ca_X9_X3) hi g
  · exact pv_aastore (r := (RX0, TX0, 5)) hd (by decide) (sx_18 hT) hx hs rfl (Or.inr ca_X0_X3) hi g
  · exact pv_aastore (r := (RX6, TX6, 5)) hd (by decide) (sx_18 hT) hx hs rfl (Or.inr ca_X6_X3) hi g
set_option maxRecDepth 100000 in
set_option maxHeartbeats 4000000 in
theorem c_X11_addFigure {G : pv_G} {d h : Nat} {k p c : Int32} {t : pv_T} {I : pv_I} {L : pv_L} {Rf : pv_R} (hT : sh_ok t) (hR : rf_ok Rf) (hh : hl_ok t Rf h) (hn : 0 ≤ (I h 3).toInt ∧ (I h 3).toInt < 8) (hk : 0 ≤ k.toInt ∧ k.toInt ≤ 6) (hd : 6 ≤ d) : pv_Mt G mX11_addFigure d 1 5 [.ref 16, .ref h, .int k, .int p, .int c] t I L Rf (pv_is none (pv_tn t (.inr (fcls k))) (pv_u (x_nI I t.2 k (I h 3) p c) h 3 (I h 3 + 1)) (x_nL L t.2) (pv_u (x_nR Rf t.2) 18 (I h 3).toNatClampNeg (some t.2))) := by
  refine pv_mt mgX11_addFigure.2.2.2.2.2 [.ref 16, .ref h, .int k, .int p, .int c, .retAddr 0] rfl (Nat.le_of_ble_eq_true rfl) ?_
  refine pv_aload_1 (pc := 0) dX11_addFigure_0 ?_
  refine pv_getI (pc := 1) dX11_addFigure_1 fg_X11_151_4 rfl hh.1 hh.2.2.1 ?_
  refine pv_istore_5 (pc := 4) dX11_addFigure_4 (by decide) rfl ?_
  refine pv_iload_5 (pc := 6) dX11_addFigure_6 ?_
  refine pv_if_lt (pc := 8) (tgt := 45) dX11_addFigure_8 (by decide) (fun h8 => absurd h8 (by rw [i_lt, Int32.toInt_zero]; omega)) (fun h8 => ?_)
  refine pv_iload_5 (pc := 11) dX11_addFigure_11 ?_
  refine pv_bipush (pc := 13) (v := 8) dX11_addFigure_13 (by decide) ?_
  refine pv_icmp_ge (pc := 15) (tgt := 45) dX11_addFigure_15 (by decide) (fun h15 => absurd h15 (not_not_intro (by rw [i_lt, show (8 : Int32).toInt = 8 by decide]; omega))) (fun h15 => ?_)
  refine pv_aload_0 (pc := 18) dX11_addFigure_18 ?_
  refine pv_getR (pc := 19) dX11_addFigure_19 fg_X11_17_11 rfl (by decide) (sx_16 hT) (rx_16_1 hR) ?_
  refine pv_iload_5 (pc := 22) dX11_addFigure_22 ?_
  refine pv_aload_0 (pc := 24) dX11_addFigure_24 ?_
  refine pv_iload_2 (pc := 25) dX11_addFigure_25 ?_
  refine pv_iload_5 (pc := 26) dX11_addFigure_26 ?_
  refine pv_iload_3 (pc := 28) dX11_addFigure_28 ?_
  refine pv_iload_4 (pc := 29) dX11_addFigure_29 ?_
  refine pv_callV (bc := 0) (bs := 0) (d1 := d - 1) (pc := 31) dX11_addFigure_31 mgX11_newFigure lv_X11_373_11 (by decide) (sx_16 hT) (by omega) (c_newf hT hR hk (by omega)) rfl rfl (Nat.le_of_ble_eq_true rfl) (fun v t1 I1 L1 R1 hq => ?_)
  obtain ⟨rfl, rfl, rfl, rfl, rfl⟩ := hq
  have hT2 : sh_ok (pv_tn t (.inr (fcls k))) := (pv_al.tn (m := 0) (Rf := Rf) (R1 := Rf) (fun _ _ _ _ => rfl)).sh hT
  have hh2 : (pv_tn t (.inr (fcls k))).1 h = some (.inr 4) := (pv_tn_o (by have := hh.2.1; have := hT.1; omega)).trans hh.2.2.1
  refine x_as (pc := 34) dX11_addFigure_34 hT2 (by have := hT.1; omega) hk pv_tn_x (pv_in_of (by omega) (by omega)) ?_
  refine pv_aload_1 (pc := 35) dX11_addFigure_35 ?_
  refine pv_dup (pc := 36) dX11_addFigure_36 rfl ?_
  refine pv_getI (pc := 37) dX11_addFigure_37 fg_X11_151_4 rfl hh.1 hh2 ?_
  refine pv_iconst (pc := 40) (v := 1) dX11_addFigure_40 (by decide) ?_
  refine pv_iadd (pc := 41) dX11_addFigure_41 ?_
  refine pv_putI (pc := 42) dX11_addFigure_42 fl_X11_151_4 (fun q => by cases q) ⟨rfl, rfl, rfl⟩ hh.1 hh2 ?_
  refine pv_vret (pc := 45) dX11_addFigure_45 rfl ?_
  rw [x_nI_o (by have := hh.2.1; have := hT.1; omega)]
  exact ⟨rfl, rfl, rfl, rfl, rfl⟩

theorem S_adds_o {J : pv_I} {k a c : Int32} {x j : Nat} (h0 : ¬ (x = 0 ∧ j = 0)) (h1 : ¬ ((x = 1 ∨ x = 2 ∨ x = 3) ∧ j = (J 0 0).toNatClampNeg)) : S_adds J k a c x j = J x j := by
  unfold S_adds
  rw [pv_u_o _ h0, pv_u_o _ (by omega), pv_u_o _ (by omega), pv_u_o _ (by omega)]
theorem S_adds_n {J : pv_I} {k a c : Int32} : S_adds J k a c 0 0 = J 0 0 + 1 ∧ S_adds J k a c 1 (J 0 0).toNatClampNeg = k ∧ S_adds J k a c 2 (J 0 0).toNatClampNeg = a ∧ S_adds J k a c 3 (J 0 0).toNatClampNeg = c := by
  unfold S_adds
  refine ⟨rfl, ?_, ?_, ?_⟩ <;> simp [pv_u_app]
/-- the figures, one more of them -/
theorem XF.add {J : pv_I} {t : pv_T} {I I1 : pv_I} {Rf : pv_R} {k a c : Int32} (g : XF J t I Rf) (gt : sh_ok t) (hn : 0 ≤ (J 0 0).toInt ∧ (J 0 0).toInt < 8) (hI : ∀ b j, 90 ≤ b → I1 b j = x_nI I t.2 k (J 0 0) a c b j) : XF (S_adds J k a c) (pv_tn t (.inr (fcls k))) I1 (pv_u (x_nR Rf t.2) 18 (J 0 0).toNatClampNeg (some t.2)) := fun i hi => by
  obtain ⟨s0, s1, s2, s3⟩ := S_adds_n (J := J) (k := k) (a := a) (c := c)
  have h90 := gt.1
  have hl := i_lit (J 0 0)
  have e1 : (J 0 0 + 1).toInt = (J 0 0).toInt + 1 := x_n1 (by omega)
  rw [s0, e1] at hi
  by_cases e : i = (J 0 0).toNatClampNeg
  · obtain ⟨z0, z1, z2, z3⟩ := x_nI_x (I := I) (x := t.2) (k := k) (n := J 0 0) (p := a) (c := c)
    refine ⟨t.2, ?_, h90, Nat.lt_succ_self _, ?_, ?_, ?_, ?_, ?_, ?_⟩
    · rw [e, pv_u_eq, if_pos rfl]
    · rw [e, s1]; exact pv_tn_x
    · rw [e, s1, hI _ _ h90]; exact z0
    · rw [hI _ _ h90, e, z1, ← Int32.toInt_inj, i_of (by omega)]; omega
    · rw [e, s2, hI _ _ h90]; exact z2
    · rw [e, s3, hI _ _ h90]; exact z3
    · rw [pv_u_o _ (by omega)]; exact x_nR_x
  · obtain ⟨x, x1, x2, x3, x4, x5, x6, x7, x8, x9⟩ := g i (by omega)
    rw [S_adds_o (by omega) (by omega), S_adds_o (by omega) (by omega), S_adds_o (by omega) (by omega)]
    refine ⟨x, ?_, x2, Nat.lt_succ_of_lt x3, (pv_tn_o x3).trans x4, ?_, ?_, ?_, ?_, ?_⟩
    · rw [pv_u_o _ (by omega), x_nR_o (by omega)]; exact x1
    · rw [hI _ _ x2, x_nI_o (by omega)]; exact x5
    · rw [hI _ _ x2, x_nI_o (by omega)]; exact x6
    · rw [hI _ _ x2, x_nI_o (by omega)]; exact x7
    · rw [hI _ _ x2, x_nI_o (by omega)]; exact x8
    · rw [pv_u_o _ (by omega), x_nR_o (by omega)]; exact x9
theorem pv_al.add {t : pv_T} {Rf : pv_R} {k n : Int32} (hT : sh_ok t) (hn : 0 ≤ n.toInt) : pv_al n.toInt t Rf (pv_tn t (.inr (fcls k))) (pv_u (x_nR Rf t.2) 18 n.toNatClampNeg (some t.2)) := by
  have hl := i_lit n
  exact pv_al.tn (fun a j ha q => by rw [pv_u_o _ (by omega), x_nR_o (by omega)])
theorem RX.add {J : pv_I} {K : pv_L} {t : pv_T} {I : pv_I} {L : pv_L} {Rf : pv_R} {k a c : Int32} (h : RX J K t I L Rf) (hn : 0 ≤ (J 0 0).toInt ∧ (J 0 0).toInt < 8) : RX (S_adds J k a c) K (pv_tn t (.inr (fcls k))) (pv_u (x_nI I t.2 k (J 0 0) a c) 21 3 (J 0 0 + 1)) (x_nL L t.2) (pv_u (x_nR Rf t.2) 18 (J 0 0).toNatClampNeg (some t.2)) := by
  have hA : pv_al (J 0 0).toInt t Rf (pv_tn t (.inr (fcls k))) (pv_u (x_nR Rf t.2) 18 (J 0 0).toNatClampNeg (some t.2)) := pv_al.add h.1 hn.1
  have g := h.al hA (Int.le_refl _) (I1 := x_nI I t.2 k (J 0 0) a c) (L1 := x_nL L t.2) (fun b j q => x_nI_o (by omega)) (fun b j q => x_nL_o (by omega))
  obtain ⟨g1, g2, g3, g4, g5, g6, g7⟩ := g
  have h90 := h.1.1
  have jo : ∀ x j, x ≠ 1 → x ≠ 2 → x ≠ 3 → ¬ (x = 0 ∧ j = 0) → S_adds J k a c x j = J x j := fun x j q1 q2 q3 q4 => S_adds_o q4 (by omega)
  have ja : ∀ x, x ≠ 0 → x ≠ 1 → x ≠ 2 → x ≠ 3 → S_adds J k a c x = J x := fun x q0 q1 q2 q3 => funext fun j => jo x j q1 q2 q3 (by omega)
  have j0 : ∀ j, j ≠ 0 → S_adds J k a c 0 j = J 0 j := fun j q => jo 0 j (by decide) (by decide) (by decide) (by omega)
  refine ⟨g1, g2, ?_, ?_, fun s hs => ?_, ⟨fun i hi => ?_, ?_, ?_, ?_, fun i q1 q2 => ?_⟩, fun q => ?_⟩
  · rw [S_adds_n.1, j0 1 (by decide), j0 2 (by decide), j0 3 (by decide), ja 4 (by decide) (by decide) (by decide) (by decide)]
    obtain ⟨y1, y2, y3, y4, y5, y6, y7⟩ := g3
    exact ⟨y1, y2, by rw [pv_u_eq, if_pos rfl], by rw [pv_u_o _ (by decide)]; exact y4, by rw [pv_u_o _ (by decide)]; exact y5, by rw [pv_u_o _ (by decide)]; exact y6, fun j hj => by rw [pv_u_o _ (by omega)]; exact y7 j hj⟩
  · exact h.2.2.2.1.add h.1 hn (fun b j q => pv_u_o _ (by omega))
  · have g := (g5 s hs).cg (I1 := pv_u (x_nI I t.2 k (J 0 0) a c) 21 3 (J 0 0 + 1)) (L1 := x_nL L t.2) (fun j _ => pv_u_o _ (by omega)) (fun _ => rfl)
    unfold XS at g ⊢
    rw [ja 6 (by decide) (by decide) (by decide) (by decide), ja 7 (by decide) (by decide) (by decide) (by decide), ja 8 (by decide) (by decide) (by decide) (by decide), ja 9 (by decide) (by decide) (by decide) (by decide)]
    exact g
  · rw [pv_u_o _ (by omega), ja 10 (by decide) (by decide) (by decide) (by decide)]; exact g6.1 i hi
  · rw [pv_u_o _ (by omega), j0 4 (by decide)]; exact g6.2.1
  · rw [pv_u_o _ (by omega), j0 6 (by decide)]; exact g6.2.2.1
  · rw [pv_u_o _ (by omega), j0 5 (by decide)]; exact g6.2.2.2.1
  · rw [j0 5 (by decide)] at q2
    rw [pv_u_o _ (by omega), ja 11 (by decide) (by decide) (by decide) (by decide)]; exact g6.2.2.2.2 i q1 q2
  · rw [j0 6 (by decide)] at q
    rw [j0 7 (by decide), j0 8 (by decide), j0 9 (by decide), j0 10 (by decide), ja 5 (by decide) (by decide) (by decide) (by decide)]
    exact (g7 q).cg (fun j => pv_u_o _ (by omega)) (fun j => pv_u_o _ (by omega)) (fun _ => rfl)
set_option maxRecDepth 100000 in
set_option maxHeartbeats 4000000 in
theorem c_X11_figure {G : pv_G} {d : Nat} {J : pv_I} {K : pv_L} {k a c : Int32} {t : pv_T} {I : pv_I} {L : pv_L} {Rf : pv_R} (hW : WF J K) (hX : RX J K t I L Rf)  (hd : 60 ≤ d) : pv_Mt G mX11_figure d 1 5 [.ref 16, .int k, .int a, .int c] t I L Rf (qX (S_figure J K k a c) I L) := by
  refine pv_mt mgX11_figure.2.2.2.2.2 [.ref 16, .int k, .int a, .int c] rfl (Nat.le_of_ble_eq_true rfl) ?_
  have hT := hX.1
  have hR := hX.2.1
  obtain ⟨-, -, ⟨xp, xq, xn, xst, xsp, xsd, xc⟩, xf, xs, xb, xi⟩ := id hX
  refine pv_iload_1 (pc := 0) dX11_figure_0 ?_
  refine pv_callS1 (pc := 1) dX11_figure_1 mgX11_isKind ls_X11_129 (by omega) (c_X11_isKind ) rfl rfl (by decide) ?_
  refine pv_if_ne (pc := 4) (tgt := 13) dX11_figure_4 (by decide) (fun h4 => ?_) (fun h4 => ?_)
  · refine pv_iload_2 (pc := 13) dX11_figure_13 ?_
    refine pv_callS1 (pc := 14) dX11_figure_14 mgX11_isA ls_X11_145 (by omega) (c_X11_isA ) rfl rfl (by decide) ?_
    refine pv_if_eq (pc := 17) (tgt := 27) dX11_figure_17 (by decide) (fun h17 => ?_) (fun h17 => ?_)
    · refine pv_aload_0 (pc := 27) dX11_figure_27 ?_
      refine pv_bipush (pc := 28) (v := 6) dX11_figure_28 (by decide) ?_
      refine pv_callV1 (pc := 30) dX11_figure_30 mgX11_refuse lv_X11_70_11 (by decide) (sx_16 hT) (by omega) (c_X11_refuse (k := 6) hT hR (by decide) (by unfold vp_in; decide)) rfl rfl (by decide) ?_
      refine pv_iret (pc := 33) dX11_figure_33 rfl rfl ?_
      have f1 := i_k07 ((pv_b_n0 _).mp h4)
      refine qX.ref hX k_l6 ?_
      unfold S_figure
      rw [if_pos f1, if_neg]
      rintro ⟨g1, g2, g3, g4⟩
      first
        | (have f2 := (pv_b_0 _).mp (by first | exact h17 | exact Classical.not_not.mp h17)
           rw [decide_eq_true g1, decide_eq_true g2] at f2; exact absurd f2 (by decide))
        | (have f2 := (pv_b_0 _).mp (by first | exact h24 | exact Classical.not_not.mp h24)
           rw [decide_eq_true g3, decide_eq_true g4] at f2; exact absurd f2 (by decide))
    · refine pv_iload_3 (pc := 20) dX11_figure_20 ?_
      refine pv_callS1 (pc := 21) dX11_figure_21 mgX11_isCost ls_X11_148 (by omega) (c_X11_isCost ) rfl rfl (by decide) ?_
      refine pv_if_ne (pc := 24) (tgt := 34) dX11_figure_24 (by decide) (fun h24 => ?_) (fun h24 => ?_)
      · refine pv_aload_0 (pc := 34) dX11_figure_34 ?_
        refine pv_getR (pc := 35) dX11_figure_35 fg_X11_31_11 rfl (by decide) (sx_16 hT) (rx_16_4 hR) ?_
        refine pv_getI (pc := 38) dX11_figure_38 fg_X11_151_4 rfl (by decide) (sx_21 hT) ?_
        refine pv_bipush (pc := 41) (v := 8) dX11_figure_41 (by decide) ?_
        refine pv_icmp_lt (pc := 43) (tgt := 53) dX11_figure_43 (by decide) (fun h43 => ?_) (fun h43 => ?_)
        · refine pv_aload_0 (pc := 53) dX11_figure_53 ?_
          refine pv_aload_0 (pc := 54) dX11_figure_54 ?_
          refine pv_getR (pc := 55) dX11_figure_55 fg_X11_31_11 rfl (by decide) (sx_16 hT) (rx_16_4 hR) ?_
          refine pv_iload_1 (pc := 58) dX11_figure_58 ?_
          refine pv_iload_2 (pc := 59) dX11_figure_59 ?_
          refine pv_iload_3 (pc := 60) dX11_figure_60 ?_
          have f1 := i_k07 ((pv_b_n0 _).mp h4)
          have f2 := (pv_b_n0 _).mp h17
          have f3 := (pv_b_n0 _).mp h24
          simp only [Bool.and_eq_true, decide_eq_true_eq] at f2 f3
          have f4 : 0 ≤ a ∧ a ≤ 9 ∧ 1 ≤ c ∧ c ≤ 9 := ⟨f2.1, f2.2, f3.1, f3.2⟩
          have w0 := hW.1
          have f1i : 0 ≤ k.toInt ∧ k.toInt ≤ 6 := by obtain ⟨z1, z2⟩ := f1; rw [i_le, Int32.toInt_zero] at z1; rw [i_le, show (6 : Int32).toInt = 6 by decide] at z2; exact ⟨z1, z2⟩
          have f5 : (J 0 0).toInt < 8 := by
            have f5 : I 21 3 < 8 := (by first | exact h43 | exact Classical.not_not.mp h43)
            rw [xn, i_lt, show (8 : Int32).toInt = 8 by decide] at f5; exact f5
          have f6 : ¬ J 0 0 = 8 := fun q => by rw [q, show (8 : Int32).toInt = 8 by decide] at f5; omega
          have hn : 0 ≤ (I 21 3).toInt ∧ (I 21 3).toInt < 8 := by rw [xn]; omega
          refine pv_callV (bc := 0) (bs := 0) (d1 := d - 1) (pc := 61) dX11_figure_61 mgX11_addFigure lv_X11_154_11 (by decide) (sx_16 hT) (by omega) (c_X11_addFigure hT hR (hl_21 hT hR) hn f1i (by omega)) rfl rfl (Nat.le_of_ble_eq_true rfl) (fun v t1 I1 L1 R1 hq => ?_)
          obtain ⟨rfl, rfl, rfl, rfl, rfl⟩ := hq
          rw [xn]
          have hX2 := hX.add (k := k) (a := a) (c := c) ⟨w0.1, f5⟩
          have hT2 := hX2.1
          have hR2 := hX2.2.1
          refine pv_aload_0 (pc := 64) dX11_figure_64 ?_
          refine pv_getR (pc := 65) dX11_figure_65 fg_X11_31_11 rfl (by decide) (sx_16 hT2) (rx_16_4 hR2) ?_
          refine pv_getI (pc := 68) dX11_figure_68 fg_X11_151_4 rfl (by decide) (sx_21 hT2) ?_
          refine pv_iconst (pc := 71) (v := 1) dX11_figure_71 (by decide) ?_
          refine pv_isub (pc := 72) dX11_figure_72 ?_
          refine pv_iret (pc := 73) dX11_figure_73 rfl rfl ?_
          have e : S_figure J K k a c = (.int (J 0 0), S_adds J k a c, K) := by unfold S_figure; rw [if_pos f1, if_pos f4, if_neg f6]
          rw [e]
          have h90 := hT.1
          refine ⟨congrArg (fun z => some (Value.int z)) ?_, hX2, kM.of (fun b j q1 q2 => by rw [pv_u_o _ (by omega), x_nI_o (by omega)]) (fun b j q1 q2 => x_nL_o (by omega))⟩
          rw [hX2.2.2.1.2.2.1, S_adds_n.1]
          grind
        · refine pv_aload_0 (pc := 46) dX11_figure_46 ?_
          refine pv_bipush (pc := 47) (v := 7) dX11_figure_47 (by decide) ?_
          refine pv_callV1 (pc := 49) dX11_figure_49 mgX11_refuse lv_X11_70_11 (by decide) (sx_16 hT) (by omega) (c_X11_refuse (k := 7) hT hR (by decide) (by unfold vp_in; decide)) rfl rfl (by decide) ?_
          refine pv_iret (pc := 52) dX11_figure_52 rfl rfl ?_
          have f1 := i_k07 ((pv_b_n0 _).mp h4)
          have f2 := (pv_b_n0 _).mp h17
          have f3 := (pv_b_n0 _).mp h24
          simp only [Bool.and_eq_true, decide_eq_true_eq] at f2 f3
          have f4 : 0 ≤ a ∧ a ≤ 9 ∧ 1 ≤ c ∧ c ≤ 9 := ⟨f2.1, f2.2, f3.1, f3.2⟩
          have w0 := hW.1
          have f1i : 0 ≤ k.toInt ∧ k.toInt ≤ 6 := by obtain ⟨z1, z2⟩ := f1; rw [i_le, Int32.toInt_zero] at z1; rw [i_le, show (6 : Int32).toInt = 6 by decide] at z2; exact ⟨z1, z2⟩
          have f5 : J 0 0 = 8 := by
            have f5 : ¬ I 21 3 < 8 := h43
            rw [xn, i_lt, show (8 : Int32).toInt = 8 by decide] at f5
            rw [← Int32.toInt_inj, show (8 : Int32).toInt = 8 by decide]; omega
          refine qX.ref hX k_l7 ?_; unfold S_figure; rw [if_pos f1, if_pos f4, if_pos f5]
      · refine pv_aload_0 (pc := 27) dX11_figure_27 ?_
        refine pv_bipush (pc := 28) (v := 6) dX11_figure_28 (by decide) ?_
        refine pv_callV1 (pc := 30) dX11_figure_30 mgX11_refuse lv_X11_70_11 (by decide) (sx_16 hT) (by omega) (c_X11_refuse (k := 6) hT hR (by decide) (by unfold vp_in; decide)) rfl rfl (by decide) ?_
        refine pv_iret (pc := 33) dX11_figure_33 rfl rfl ?_
        have f1 := i_k07 ((pv_b_n0 _).mp h4)
        refine qX.ref hX k_l6 ?_
        unfold S_figure
        rw [if_pos f1, if_neg]
        rintro ⟨g1, g2, g3, g4⟩
        first
          | (have f2 := (pv_b_0 _).mp (by first | exact h17 | exact Classical.not_not.mp h17)
             rw [decide_eq_true g1, decide_eq_true g2] at f2; exact absurd f2 (by decide))
          | (have f2 := (pv_b_0 _).mp (by first | exact h24 | exact Classical.not_not.mp h24)
             rw [decide_eq_true g3, decide_eq_true g4] at f2; exact absurd f2 (by decide))
  · refine pv_aload_0 (pc := 7) dX11_figure_7 ?_
    refine pv_iconst (pc := 8) (v := 1) dX11_figure_8 (by decide) ?_
    refine pv_callV1 (pc := 9) dX11_figure_9 mgX11_refuse lv_X11_70_11 (by decide) (sx_16 hT) (by omega) (c_X11_refuse (k := 1) hT hR (by decide) (by unfold vp_in; decide)) rfl rfl (by decide) ?_
    refine pv_iret (pc := 12) dX11_figure_12 rfl rfl ?_
    have f1 := (pv_b_0 _).mp (by first | exact h4 | exact Classical.not_not.mp h4)
    refine qX.ref hX (by decide : 1 < 8) ?_; unfold S_figure; rw [if_neg (i_k7n f1)]

