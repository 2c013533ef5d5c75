/-! THE CLASS's world -/
def fcls (k : Int32) : Nat := if k = 1 then 1 else if k = 2 then 10 else if k = 3 then 5 else if k = 4 then 9 else if k = 5 then 0 else if k = 6 then 6 else 3
def FG (t : pv_T) (I : pv_I) (Rf : pv_R) (i : Nat) (k a c : Int32) : Prop := ∃ x, Rf 18 i = some x ∧ 90 ≤ x ∧ x < t.2 ∧ t.1 x = some (.inr (fcls k)) ∧ I x 0 = k ∧ I x 1 = Int32.ofNat i ∧ I x 2 = a ∧ I x 3 = c ∧ Rf x 4 = some 20
/-- what a hall shows -/
def XHw (h : Nat) (n st sp sd : Int32) (p q : Int64) (c : Nat → Int32) (I : pv_I) (L : pv_L) : Prop := L h 1 = p ∧ L h 2 = q ∧ I h 3 = n ∧ I h 4 = st ∧ I h 5 = sp ∧ I h 6 = sd ∧ ∀ j, j < 4 → I (h + 1) j = c j
def XF (J : pv_I) (t : pv_T) (I : pv_I) (Rf : pv_R) : Prop := ∀ i : Nat, (i : Int) < (J 0 0).toInt → FG t I Rf i (J 1 i) (J 2 i) (J 3 i)
def XS (J : pv_I) (K : pv_L) (I : pv_I) (L : pv_L) (s : Nat) : Prop := (J 6 s = 0 → I (45 + 2 * s) 1 = -1 ∧ I (45 + 2 * s) 2 = 0 ∧ I (45 + 2 * s) 3 = -1) ∧ (J 6 s = 1 → I (45 + 2 * s) 1 = J 7 s ∧ I (45 + 2 * s) 2 = J 8 s ∧ I (45 + 2 * s) 3 = -1 ∧ ∀ j, j < 160 → L (46 + 2 * s) j = K (1 + s) j) ∧ (J 6 s = 2 → I (45 + 2 * s) 1 = -1 ∧ I (45 + 2 * s) 2 = 0 ∧ I (45 + 2 * s) 3 = J 9 s)
def XB (J : pv_I) (I : pv_I) : Prop := (∀ k, k < 8 → I 19 k = J 10 k) ∧ I 16 12 = J 0 4 ∧ I 16 11 = J 0 6 ∧ I 20 0 = J 0 5 ∧ ∀ i : Nat, i < 20 → (i : Int) < (J 0 5).toInt → I 20 (1 + i) = J 11 i
def XP (J : pv_I) (K : pv_L) (I : pv_I) (L : pv_L) : Prop := J 0 6 = 1 → XHw 23 (J 0 7) (J 0 8) (J 0 9) (J 0 10) (K 0 2) (K 0 3) (J 5) I L
def RX (J : pv_I) (K : pv_L) (t : pv_T) (I : pv_I) (L : pv_L) (Rf : pv_R) : Prop := sh_ok t ∧ rf_ok Rf ∧ XHw 21 (J 0 0) (J 0 1) (J 0 2) (J 0 3) (K 0 0) (K 0 1) (J 4) I L ∧ XF J t I Rf ∧ (∀ s, s < 8 → XS J K I L s) ∧ XB J I ∧ XP J K I L
/-- what the class's public methods end in -/
def qX (r : SR) (I : pv_I) (L : pv_L) : pv_Q := fun v t1 I1 L1 R1 => v = some r.1 ∧ RX r.2.1 r.2.2 t1 I1 L1 R1 ∧ kM I L I1 L1
/-- the class's scratch: trial, second, search, crowds, where a shelf is read -/
def kC (I : pv_I) (L : pv_L) (I1 : pv_I) (L1 : pv_L) : Prop := (∀ a j, ¬ (25 ≤ a ∧ a ≤ 44) → ¬ (45 ≤ a ∧ a ≤ 60 ∧ 4 ≤ j) → I1 a j = I a j) ∧ (∀ a j, ¬ (25 ≤ a ∧ a ≤ 44) → L1 a j = L a j)
theorem kC.rf {I : pv_I} {L : pv_L} : kC I L I L := ⟨fun _ _ _ _ => rfl, fun _ _ _ => rfl⟩
theorem kC.tr {I I1 I2 : pv_I} {L L1 L2 : pv_L} (h : kC I L I1 L1) (g : kC I1 L1 I2 L2) : kC I L I2 L2 := ⟨fun a j h1 h2 => (g.1 a j h1 h2).trans (h.1 a j h1 h2), fun a j h1 => (g.2 a j h1).trans (h.2 a j h1)⟩
theorem kC.uI {I I1 : pv_I} {L L1 : pv_L} (h : kC I L I1 L1) (a j : Nat) (v : Int32) (hn : (25 ≤ a ∧ a ≤ 44) ∨ (45 ≤ a ∧ a ≤ 60 ∧ 4 ≤ j)) : kC I L (pv_u I1 a j v) L1 := ⟨fun b i h1 h2 => by rw [pv_u_app, if_neg (by omega)]; exact h.1 b i h1 h2, h.2⟩
theorem kC.uL {I I1 : pv_I} {L L1 : pv_L} (h : kC I L I1 L1) (a j : Nat) (v : Int64) (hn : 25 ≤ a ∧ a ≤ 44) : kC I L I1 (pv_u L1 a j v) := ⟨h.1, fun b i h1 => by rw [pv_u_app, if_neg (by omega)]; exact h.2 b i h1⟩
theorem kC.kM {I I1 : pv_I} {L L1 : pv_L} (h : kC I L I1 L1) : kM I L I1 L1 := fun a h1 h2 => ⟨funext fun j => h.1 a j (by omega) (by omega), funext fun j => h.2 a j (by omega)⟩
theorem kM.rf {I : pv_I} {L : pv_L} : kM I L I L := fun _ _ _ => ⟨rfl, rfl⟩
theorem kM.tr {I I1 I2 : pv_I} {L L1 L2 : pv_L} (h : kM I L I1 L1) (g : kM I1 L1 I2 L2) : kM I L I2 L2 := fun a h1 h2 => ⟨(g a h1 h2).1.trans (h a h1 h2).1, (g a h1 h2).2.trans (h a h1 h2).2⟩
theorem kM.uI {I I1 : pv_I} {L L1 : pv_L} (h : kM I L I1 L1) (a j : Nat) (v : Int32) (ha : a < 61 ∨ 90 ≤ a) : kM I L (pv_u I1 a j v) L1 := fun b h1 h2 => ⟨by rw [pv_u_ne _ _ (by omega)]; exact (h b h1 h2).1, (h b h1 h2).2⟩
theorem kM.uL {I I1 : pv_I} {L L1 : pv_L} (h : kM I L I1 L1) (a j : Nat) (v : Int64) (ha : a < 61 ∨ 90 ≤ a) : kM I L I1 (pv_u L1 a j v) := fun b h1 h2 => ⟨(h b h1 h2).1, by rw [pv_u_ne _ _ (by omega)]; exact (h b h1 h2).2⟩
theorem XHw.cg {h : Nat} {n st sp sd : Int32} {p q : Int64} {c : Nat → Int32} {I I1 : pv_I} {L L1 : pv_L} (g : XHw h n st sp sd p q c I L) (h1 : ∀ j, I1 h j = I h j) (h2 : ∀ j, I1 (h + 1) j = I (h + 1) j) (h3 : ∀ j, L1 h j = L h j) : XHw h n st sp sd p q c I1 L1 := by
  obtain ⟨g1, g2, g3, g4, g5, g6, g7⟩ := g
  exact ⟨(h3 1).trans g1, (h3 2).trans g2, (h1 3).trans g3, (h1 4).trans g4, (h1 5).trans g5, (h1 6).trans g6, fun j hj => (h2 j).trans (g7 j hj)⟩
theorem XF.cg {J : pv_I} {t : pv_T} {I I1 : pv_I} {Rf : pv_R} (g : XF J t I Rf) (h : ∀ a j, 90 ≤ a → I1 a j = I a j) : XF J t I1 Rf := fun i hi => by
  obtain ⟨x, x1, x2, x3, x4, x5, x6, x7, x8, x9⟩ := g i hi
  exact ⟨x, x1, x2, x3, x4, (h x 0 x2).trans x5, (h x 1 x2).trans x6, (h x 2 x2).trans x7, (h x 3 x2).trans x8, x9⟩
theorem XS.cg {J : pv_I} {K : pv_L} {I I1 : pv_I} {L L1 : pv_L} {s : Nat} (g : XS J K I L s) (h : ∀ j, j < 4 → I1 (45 + 2 * s) j = I (45 + 2 * s) j) (h2 : ∀ j, L1 (46 + 2 * s) j = L (46 + 2 * s) j) : XS J K I1 L1 s := by
  obtain ⟨g0, g1, g2⟩ := g
  refine ⟨fun q => ?_, fun q => ?_, fun q => ?_⟩
  · rw [h 1 (by decide), h 2 (by decide), h 3 (by decide)]; exact g0 q
  · rw [h 1 (by decide), h 2 (by decide), h 3 (by decide)]
    obtain ⟨a1, a2, a3, a4⟩ := g1 q
    exact ⟨a1, a2, a3, fun j hj => (h2 j).trans (a4 j hj)⟩
  · rw [h 1 (by decide), h 2 (by decide), h 3 (by decide)]; exact g2 q
theorem XB.cg {J : pv_I} {I I1 : pv_I} (g : XB J I) (h1 : ∀ j, I1 19 j = I 19 j) (h2 : ∀ j, I1 16 j = I 16 j) (h3 : ∀ j, I1 20 j = I 20 j) : XB J I1 :=
  ⟨fun k hk => (h1 k).trans (g.1 k hk), (h2 12).trans g.2.1, (h2 11).trans g.2.2.1, (h3 0).trans g.2.2.2.1, fun i h4 h5 => (h3 _).trans (g.2.2.2.2 i h4 h5)⟩
theorem RX.scr {J : pv_I} {K : pv_L} {t : pv_T} {I I1 : pv_I} {L L1 : pv_L} {Rf : pv_R} (h : RX J K t I L Rf) (k : kC I L I1 L1) : RX J K t I1 L1 Rf := by
  obtain ⟨h1, h2, h3, h4, h5, h6, h7⟩ := h
  refine ⟨h1, h2, h3.cg (fun j => k.1 _ j (by omega) (by omega)) (fun j => k.1 _ j (by omega) (by omega)) (fun j => k.2 _ j (by omega)), h4.cg (fun a j ha => k.1 a j (by omega) (by omega)), fun s hs => (h5 s hs).cg (fun j hj => k.1 _ j (by omega) (by omega)) (fun j => k.2 _ j (by omega)), h6.cg (fun j => k.1 _ j (by omega) (by omega)) (fun j => k.1 _ j (by omega) (by omega)) (fun j => k.1 _ j (by omega) (by omega)), fun q => (h7 q).cg (fun j => k.1 _ j (by omega) (by omega)) (fun j => k.1 _ j (by omega) (by omega)) (fun j => k.2 _ j (by omega))⟩
def x_ref (I : pv_I) (k : Nat) : pv_I := pv_u I 19 k (I 19 k + 1)
theorem RX.ref {J : pv_I} {K : pv_L} {t : pv_T} {I : pv_I} {L : pv_L} {Rf : pv_R} (h : RX J K t I L Rf) {k : Nat} (hk : k < 8) : RX (pv_u J 10 k (J 10 k + 1)) K t (x_ref I k) L Rf := by
  obtain ⟨h1, h2, h3, h4, h5, h6, h7⟩ := h
  have e : ∀ a j, a ≠ 19 → x_ref I k a j = I a j := fun a j ha => by unfold x_ref; rw [pv_u_app, if_neg (fun q => ha q.1)]
  refine ⟨h1, h2, h3.cg (fun j => e _ j (by decide)) (fun j => e _ j (by decide)) (fun _ => rfl), fun i hi => ?_, fun s hs => (h5 s hs).cg (fun j _ => e _ j (by omega)) (fun _ => rfl), ⟨fun x hx => ?_, (e 16 12 (by decide)).trans h6.2.1, (e 16 11 (by decide)).trans h6.2.2.1, (e 20 0 (by decide)).trans h6.2.2.2.1, fun i g1 g2 => (e 20 _ (by decide)).trans (h6.2.2.2.2 i g1 g2)⟩, fun q => (h7 q).cg (fun j => e _ j (by decide)) (fun j => e _ j (by decide)) (fun _ => rfl)⟩
  · exact h4.cg (fun a j ha => e a j (by omega)) i hi
  · show x_ref I k 19 x = pv_u J 10 k (J 10 k + 1) 10 x
    unfold x_ref
    rw [pv_u_eq, pv_u_eq, h6.1 k hk]
    split
    · rfl
    · exact h6.1 x hx
theorem kM.ref {I : pv_I} {L : pv_L} {k : Nat} : kM I L (x_ref I k) L := kM.rf.uI 19 k _ (by decide)
theorem qX.same {J : pv_I} {K : pv_L} {I : pv_I} {L : pv_L} {t : pv_T} {Rf : pv_R} (h : RX J K t I L Rf) {v : Value} {r : SR} (hr : r = (v, J, K)) : qX r I L (some v) t I L Rf := by
  subst hr; exact ⟨rfl, h, kM.rf⟩
theorem qX.ref {J : pv_I} {K : pv_L} {I : pv_I} {L : pv_L} {t : pv_T} {Rf : pv_R} (h : RX J K t I L Rf) {k : Nat} (hk : k < 8) {v : Value} {r : SR} (hr : r = S_ref J K k v) : qX r I L (some v) t (x_ref I k) L Rf := by
  subst hr; exact ⟨rfl, h.ref hk, kM.ref⟩
theorem qX.scr {J : pv_I} {K : pv_L} {I I1 : pv_I} {L L1 : pv_L} {t : pv_T} {Rf : pv_R} (h : RX J K t I L Rf) (k : kC I L I1 L1) {v : Value} {r : SR} (hr : r = (v, J, K)) : qX r I L (some v) t I1 L1 Rf := by
  subst hr; exact ⟨rfl, h.scr k, k.kM⟩
theorem qX.scrref {J : pv_I} {K : pv_L} {I I1 : pv_I} {L L1 : pv_L} {t : pv_T} {Rf : pv_R} (h : RX J K t I L Rf) (k : kC I L I1 L1) {n : Nat} (hn : n < 8) {v : Value} {r : SR} (hr : r = S_ref J K n v) : qX r I L (some v) t (x_ref I1 n) L1 Rf := by
  subst hr; exact ⟨rfl, (h.scr k).ref hn, k.kM.tr kM.ref⟩

theorem sx_sh {t : pv_T} (h : sh_ok t) {k : Nat} (hk : k < 8) : t.1 (45 + 2 * k) = some (.inr 8) := by
  have h8 : k = 0 ∨ k = 1 ∨ k = 2 ∨ k = 3 ∨ k = 4 ∨ k = 5 ∨ k = 6 ∨ k = 7 := by omega
  rcases h8 with rfl | rfl | rfl | rfl | rfl | rfl | rfl | rfl
  · exact sx_45 h
  · exact sx_47 h
  · exact sx_49 h
  · exact sx_51 h
  · exact sx_53 h
  · exact sx_55 h
  · exact sx_57 h
  · exact sx_59 h
theorem sx_ce {t : pv_T} (h : sh_ok t) {k : Nat} (hk : k < 8) : t.1 (46 + 2 * k) = some (.inl (.long, 160)) := by
  have h8 : k = 0 ∨ k = 1 ∨ k = 2 ∨ k = 3 ∨ k = 4 ∨ k = 5 ∨ k = 6 ∨ k = 7 := by omega
  rcases h8 with rfl | rfl | rfl | rfl | rfl | rfl | rfl | rfl
  · exact sx_46 h
  · exact sx_48 h
  · exact sx_50 h
  · exact sx_52 h
  · exact sx_54 h
  · exact sx_56 h
  · exact sx_58 h
  · exact sx_60 h
theorem rx_sh {Rf : pv_R} (h : rf_ok Rf) {k : Nat} (hk : k < 8) : Rf 17 k = some (45 + 2 * k) := by
  have h8 : k = 0 ∨ k = 1 ∨ k = 2 ∨ k = 3 ∨ k = 4 ∨ k = 5 ∨ k = 6 ∨ k = 7 := by omega
  rcases h8 with rfl | rfl | rfl | rfl | rfl | rfl | rfl | rfl
  · exact rx_17_0 h
  · exact rx_17_1 h
  · exact rx_17_2 h
  · exact rx_17_3 h
  · exact rx_17_4 h
  · exact rx_17_5 h
  · exact rx_17_6 h
  · exact rx_17_7 h
theorem rx_ce {Rf : pv_R} (h : rf_ok Rf) {k : Nat} (hk : k < 8) : Rf (45 + 2 * k) 0 = some (46 + 2 * k) := by
  have h8 : k = 0 ∨ k = 1 ∨ k = 2 ∨ k = 3 ∨ k = 4 ∨ k = 5 ∨ k = 6 ∨ k = 7 := by omega
  rcases h8 with rfl | rfl | rfl | rfl | rfl | rfl | rfl | rfl
  · exact rx_45_0 h
  · exact rx_47_0 h
  · exact rx_49_0 h
  · exact rx_51_0 h
  · exact rx_53_0 h
  · exact rx_55_0 h
  · exact rx_57_0 h
  · exact rx_59_0 h
set_option maxRecDepth 100000 in
set_option maxHeartbeats 4000000 in
theorem c_X11_refuse {G : pv_G} {d : Nat} {b : Int32} {k : Nat} {t : pv_T} {I : pv_I} {L : pv_L} {Rf : pv_R} (hT : sh_ok t) (hR : rf_ok Rf) (hk : b.toNatClampNeg = k) (hb : vp_in b 8) : pv_Mt G mX11_refuse d 0 0 [.ref 16, .int b] t I L Rf (pv_is (some (.int (-b))) t (x_ref I k) L Rf) := by
  refine pv_mt mgX11_refuse.2.2.2.2.2 [.ref 16, .int b] rfl (Nat.le_of_ble_eq_true rfl) ?_
  have hb0 := pv_in_lt hb
  refine pv_iload_1 (pc := 0) dX11_refuse_0 ?_
  refine pv_if_lt (pc := 1) (tgt := 23) dX11_refuse_1 (by decide) (fun h1 => absurd h1 (by rw [i_lt, Int32.toInt_zero]; omega)) (fun h1 => ?_)
  refine pv_iload_1 (pc := 4) dX11_refuse_4 ?_
  refine pv_aload_0 (pc := 5) dX11_refuse_5 ?_
  refine pv_getR (pc := 6) dX11_refuse_6 fg_X11_21_11 rfl (by decide) (sx_16 hT) (rx_16_2 hR) ?_
  refine pv_alen (pc := 9) dX11_refuse_9 (sx_19 hT) rfl ?_
  refine pv_icmp_ge (pc := 10) (tgt := 23) dX11_refuse_10 (by decide) (fun h10 => absurd h10 (not_not_intro (by rw [i_lt, show (Int32.ofNat 8).toInt = 8 by decide]; omega))) (fun h10 => ?_)
  refine pv_aload_0 (pc := 13) dX11_refuse_13 ?_
  refine pv_getR (pc := 14) dX11_refuse_14 fg_X11_21_11 rfl (by decide) (sx_16 hT) (rx_16_2 hR) ?_
  refine pv_iload_1 (pc := 17) dX11_refuse_17 ?_
  refine pv_dup2 (pc := 18) dX11_refuse_18 rfl rfl ?_
  refine pv_ialoadj (pc := 19) dX11_refuse_19 (sx_19 hT) rfl hb ?_
  refine pv_iconst (pc := 20) (v := 1) dX11_refuse_20 (by decide) ?_
  refine pv_iadd (pc := 21) dX11_refuse_21 ?_
  refine pv_iastorej (pc := 22) dX11_refuse_22 (by decide) (sx_19 hT) rfl hb ?_
  refine pv_iload_1 (pc := 23) dX11_refuse_23 ?_
  refine pv_ineg (pc := 24) dX11_refuse_24 ?_
  refine pv_iret (pc := 25) dX11_refuse_25 rfl rfl ?_
  subst hk
  exact ⟨rfl, rfl, rfl, rfl, rfl⟩

set_option maxRecDepth 100000 in
set_option maxHeartbeats 4000000 in
theorem c_X11_refuseFar {G : pv_G} {d : Nat} {b : Int32} {k : Nat} {t : pv_T} {I : pv_I} {L : pv_L} {Rf : pv_R} (hT : sh_ok t) (hR : rf_ok Rf) (hk : b.toNatClampNeg = k) (hb : vp_in b 8) (hd : 1 ≤ d) : pv_Mt G mX11_refuseFar d 0 0 [.ref 16, .int b] t I L Rf (pv_is (some (.long (-2000000000000 + (-b).toInt64))) t (x_ref I k) L Rf) := by
  refine pv_mt mgX11_refuseFar.2.2.2.2.2 [.ref 16, .int b] rfl (Nat.le_of_ble_eq_true rfl) ?_
  refine pv_ldc2 (pc := 0) dX11_refuseFar_0 k_X11_340 ?_
  refine pv_aload_0 (pc := 3) dX11_refuseFar_3 ?_
  refine pv_iload_1 (pc := 4) dX11_refuseFar_4 ?_
  refine pv_callV1 (pc := 5) dX11_refuseFar_5 mgX11_refuse lv_X11_70_11 (by decide) (sx_16 hT) (by omega) (c_X11_refuse hT hR hk hb) rfl rfl (Nat.le_of_ble_eq_true rfl) ?_
  refine pv_i2l (pc := 8) dX11_refuseFar_8 ?_
  refine pv_ladd (pc := 9) dX11_refuseFar_9 ?_
  refine pv_lret (pc := 10) dX11_refuseFar_10 rfl ?_
  exact ⟨rfl, rfl, rfl, rfl, rfl⟩

set_option maxRecDepth 100000 in
set_option maxHeartbeats 4000000 in
theorem c_X11_refuseTen {G : pv_G} {d : Nat} {b : Int32} {k : Nat} {t : pv_T} {I : pv_I} {L : pv_L} {Rf : pv_R} (hT : sh_ok t) (hR : rf_ok Rf) (hk : b.toNatClampNeg = k) (hb : vp_in b 8) (hd : 1 ≤ d) : pv_Mt G mX11_refuseTen d 0 0 [.ref 16, .int b] t I L Rf (pv_is (some (.int (-10 + -b))) t (x_ref I k) L Rf) := by
  refine pv_mt mgX11_refuseTen.2.2.2.2.2 [.ref 16, .int b] rfl (Nat.le_of_ble_eq_true rfl) ?_
  refine pv_bipush (pc := 0) (v := (-10)) dX11_refuseTen_0 (by decide) ?_
  refine pv_aload_0 (pc := 2) dX11_refuseTen_2 ?_
  refine pv_iload_1 (pc := 3) dX11_refuseTen_3 ?_
  refine pv_callV1 (pc := 4) dX11_refuseTen_4 mgX11_refuse lv_X11_70_11 (by decide) (sx_16 hT) (by omega) (c_X11_refuse hT hR hk hb) rfl rfl (Nat.le_of_ble_eq_true rfl) ?_
  refine pv_iadd (pc := 7) dX11_refuseTen_7 ?_
  refine pv_iret (pc := 8) dX11_refuseTen_8 rfl rfl ?_
  exact ⟨rfl, rfl, rfl, rfl, rfl⟩

set_option maxRecDepth 100000 in
set_option maxHeartbeats 4000000 in
theorem c_X11_shelfAt1 {G : pv_G} {d : Nat} {s : Int32} {t : pv_T} {I : pv_I} {L : pv_L} {Rf : pv_R} (hT : sh_ok t) (hR : rf_ok Rf) (hs : vp_in s 8) : pv_Mt G mX11_shelfAt d 0 0 [.ref 16, .int s] t I L Rf (pv_is (some (.ref (45 + 2 * s.toNatClampNeg))) t I L Rf) := by
  refine pv_mt mgX11_shelfAt.2.2.2.2.2 [.ref 16, .int s] rfl (Nat.le_of_ble_eq_true rfl) ?_
  have hs8 : s.toNatClampNeg < 8 := (pv_in_lt hs).2.2.1
  have hs0 := pv_in_lt hs
  refine pv_iload_1 (pc := 0) dX11_shelfAt_0 ?_
  refine pv_if_lt (pc := 1) (tgt := 19) dX11_shelfAt_1 (by decide) (fun h1 => absurd h1 (by rw [i_lt, Int32.toInt_zero]; omega)) (fun h1 => ?_)
  refine pv_iload_1 (pc := 4) dX11_shelfAt_4 ?_
  refine pv_bipush (pc := 5) (v := 8) dX11_shelfAt_5 (by decide) ?_
  refine pv_icmp_ge (pc := 7) (tgt := 19) dX11_shelfAt_7 (by decide) (fun h7 => absurd h7 (not_not_intro (by rw [i_lt, show (8 : Int32).toInt = 8 by decide]; omega))) (fun h7 => ?_)
  refine pv_aload_0 (pc := 10) dX11_shelfAt_10 ?_
  refine pv_getR (pc := 11) dX11_shelfAt_11 fg_X11_11_11 rfl (by decide) (sx_16 hT) (rx_16_0 hR) ?_
  refine pv_iload_1 (pc := 14) dX11_shelfAt_14 ?_
  refine pv_aaload (pc := 15) dX11_shelfAt_15 (by decide) (sx_17 hT) hs (by rw [rx_sh hR hs8]) ?_
  refine pv_goto (pc := 16) (tgt := 20) dX11_shelfAt_16 (by decide) ?_
  refine pv_aret (pc := 20) dX11_shelfAt_20 (Or.inr ⟨_, rfl⟩) rfl (Or.inl ⟨_, rfl⟩) ?_
  exact ⟨rfl, rfl, rfl, rfl, rfl⟩

set_option maxRecDepth 100000 in
set_option maxHeartbeats 4000000 in
theorem c_X11_shelfAt0 {G : pv_G} {d : Nat} {s : Int32} {t : pv_T} {I : pv_I} {L : pv_L} {Rf : pv_R} (hT : sh_ok t) (hR : rf_ok Rf) (hs : s_sh s = false) : pv_Mt G mX11_shelfAt d 0 0 [.ref 16, .int s] t I L Rf (pv_is (some .null) t I L Rf) := by
  refine pv_mt mgX11_shelfAt.2.2.2.2.2 [.ref 16, .int s] rfl (Nat.le_of_ble_eq_true rfl) ?_
  have hs0 : s.toInt < 0 ∨ 8 ≤ s.toInt := by
    simp only [s_sh, Bool.and_eq_false_iff, decide_eq_false_iff_not, i_le, i_lt, (show (0 : Int32).toInt = 0 from by decide), (show (8 : Int32).toInt = 8 from by decide)] at hs
    omega
  by_cases hn : s < 0
  · skip
    refine pv_iload_1 (pc := 0) dX11_shelfAt_0 ?_
    refine pv_if_lt (pc := 1) (tgt := 19) dX11_shelfAt_1 (by decide) (fun h1 => ?_) (fun h1 => absurd h1 (not_not_intro hn))
    refine pv_null (pc := 19) dX11_shelfAt_19 ?_
    refine pv_aret (pc := 20) dX11_shelfAt_20 (Or.inl rfl) rfl (Or.inl ⟨_, rfl⟩) ?_
    exact ⟨rfl, rfl, rfl, rfl, rfl⟩
  · skip
    refine pv_iload_1 (pc := 0) dX11_shelfAt_0 ?_
    refine pv_if_lt (pc := 1) (tgt := 19) dX11_shelfAt_1 (by decide) (fun h1 => absurd h1 hn) (fun h1 => ?_)
    refine pv_iload_1 (pc := 4) dX11_shelfAt_4 ?_
    refine pv_bipush (pc := 5) (v := 8) dX11_shelfAt_5 (by decide) ?_
    refine pv_icmp_ge (pc := 7) (tgt := 19) dX11_shelfAt_7 (by decide) (fun h7 => ?_) (fun h7 => absurd h7 (by rw [i_lt, show (8 : Int32).toInt = 8 by decide]; rw [i_lt, Int32.toInt_zero] at hn; omega))
    refine pv_null (pc := 19) dX11_shelfAt_19 ?_
    refine pv_aret (pc := 20) dX11_shelfAt_20 (Or.inl rfl) rfl (Or.inl ⟨_, rfl⟩) ?_
    exact ⟨rfl, rfl, rfl, rfl, rfl⟩

set_option maxRecDepth 100000 in
set_option maxHeartbeats 4000000 in
theorem c_X8_isRow {G : pv_G} {d : Nat} {k : Nat} {t : pv_T} {I : pv_I} {L : pv_L} {Rf : pv_R} (hT : sh_ok t) (hR : rf_ok Rf) (hs8 : k < 8) : pv_Mt G mX8_isRow d 0 0 [.ref (45 + 2 * k)] t I L Rf (pv_is (some (.int (pv_b (!decide (I (45 + 2 * k) 1 = -1))))) t I L Rf) := by
  refine pv_mt mgX8_isRow.2.2.2.2.2 [.ref (45 + 2 * k)] rfl (Nat.le_of_ble_eq_true rfl) ?_
  refine pv_aload_0 (pc := 0) dX8_isRow_0 ?_
  refine pv_getI (pc := 1) dX8_isRow_1 fg_X8_15_8 rfl (by omega) (sx_sh hT hs8) ?_
  refine pv_iconst (pc := 4) (v := (-1)) dX8_isRow_4 (by decide) ?_
  refine pv_icmp_eq (pc := 5) (tgt := 12) dX8_isRow_5 (by decide) (fun h5 => ?_) (fun h5 => ?_)
  · refine pv_iconst (pc := 12) (v := 0) dX8_isRow_12 (by decide) ?_
    refine pv_iret (pc := 13) dX8_isRow_13 rfl rfl ?_
    refine ⟨congrArg (fun z => some (Value.int z)) ?_, rfl, rfl, rfl, rfl⟩
    first
      | (have f1 := h5; rw [decide_eq_true f1]; rfl)
      | (have f1 := h5; rw [decide_eq_false f1]; rfl)
  · refine pv_iconst (pc := 8) (v := 1) dX8_isRow_8 (by decide) ?_
    refine pv_goto (pc := 9) (tgt := 13) dX8_isRow_9 (by decide) ?_
    refine pv_iret (pc := 13) dX8_isRow_13 rfl rfl ?_
    refine ⟨congrArg (fun z => some (Value.int z)) ?_, rfl, rfl, rfl, rfl⟩
    first
      | (have f1 := h5; rw [decide_eq_true f1]; rfl)
      | (have f1 := h5; rw [decide_eq_false f1]; rfl)

def x_has (I : pv_I) (k : Nat) (i : Int32) : Bool := decide (0 ≤ i) && decide (i < I (45 + 2 * k) 2) && decide (i < 160)
theorem x_has_in {I : pv_I} {k : Nat} {i : Int32} (h : x_has I k i = true) : vp_in i 160 ∧ 0 ≤ i.toInt ∧ i.toInt < (I (45 + 2 * k) 2).toInt := by
  simp only [x_has, Bool.and_eq_true, decide_eq_true_eq, i_le, i_lt, (show (0 : Int32).toInt = 0 from by decide), (show (160 : Int32).toInt = 160 from by decide)] at h
  exact ⟨pv_in_of (by omega) (by omega), by omega, by omega⟩
set_option maxRecDepth 100000 in
set_option maxHeartbeats 4000000 in
theorem c_X8_hasPlace {G : pv_G} {d : Nat} {i : Int32} {k : Nat} {t : pv_T} {I : pv_I} {L : pv_L} {Rf : pv_R} (hT : sh_ok t) (hR : rf_ok Rf) (hs8 : k < 8) : pv_Mt G mX8_hasPlace d 0 0 [.ref (45 + 2 * k), .int i] t I L Rf (pv_is (some (.int (pv_b (x_has I k i)))) t I L Rf) := by
  refine pv_mt mgX8_hasPlace.2.2.2.2.2 [.ref (45 + 2 * k), .int i] rfl (Nat.le_of_ble_eq_true rfl) ?_
  refine pv_iload_1 (pc := 0) dX8_hasPlace_0 ?_
  refine pv_if_lt (pc := 1) (tgt := 25) dX8_hasPlace_1 (by decide) (fun h1 => ?_) (fun h1 => ?_)
  · refine pv_iconst (pc := 25) (v := 0) dX8_hasPlace_25 (by decide) ?_
    refine pv_iret (pc := 26) dX8_hasPlace_26 rfl rfl ?_
    refine ⟨congrArg (fun z => some (Value.int z)) ?_, rfl, rfl, rfl, rfl⟩
    unfold x_has
    first
      | (have f1 := h1; rw [decide_eq_false (p := 0 ≤ i) (by rw [i_le]; rw [i_lt] at f1; omega)]; rfl)
      | (have f1 := h9; rw [decide_eq_false (p := i < I (45 + 2 * k) 2) f1, Bool.and_false]; rfl)
      | (have f1 := h18; rw [decide_eq_false (p := i < 160) f1, Bool.and_false]; rfl)
      | (have f1 := h1; have f2 := h9; have f3 := h18; rw [decide_eq_true (p := 0 ≤ i) (by rw [i_le]; rw [i_lt] at f1; omega), decide_eq_true (p := i < I (45 + 2 * k) 2) (by first | exact f2 | exact Classical.not_not.mp f2), decide_eq_true (p := i < 160) (by first | exact f3 | exact Classical.not_not.mp f3)]; rfl)
  · refine pv_iload_1 (pc := 4) dX8_hasPlace_4 ?_
    refine pv_aload_0 (pc := 5) dX8_hasPlace_5 ?_
    refine pv_getI (pc := 6) dX8_hasPlace_6 fg_X8_25_8 rfl (by omega) (sx_sh hT hs8) ?_
    refine pv_icmp_ge (pc := 9) (tgt := 25) dX8_hasPlace_9 (by decide) (fun h9 => ?_) (fun h9 => ?_)
    · refine pv_iconst (pc := 25) (v := 0) dX8_hasPlace_25 (by decide) ?_
      refine pv_iret (pc := 26) dX8_hasPlace_26 rfl rfl ?_
      refine ⟨congrArg (fun z => some (Value.int z)) ?_, rfl, rfl, rfl, rfl⟩
      unfold x_has
      first
        | (have f1 := h1; rw [decide_eq_false (p := 0 ≤ i) (by rw [i_le]; rw [i_lt] at f1; omega)]; rfl)
        | (have f1 := h9; rw [decide_eq_false (p := i < I (45 + 2 * k) 2) f1, Bool.and_false]; rfl)
        | (have f1 := h18; rw [decide_eq_false (p := i < 160) f1, Bool.and_false]; rfl)
        | (have f1 := h1; have f2 := h9; have f3 := h18; rw [decide_eq_true (p := 0 ≤ i) (by rw [i_le]; rw [i_lt] at f1; omega), decide_eq_true (p := i < I (45 + 2 * k) 2) (by first | exact f2 | exact Classical.not_not.mp f2), decide_eq_true (p := i < 160) (by first | exact f3 | exact Classical.not_not.mp f3)]; rfl)
    · refine pv_iload_1 (pc := 12) dX8_hasPlace_12 ?_
      refine pv_aload_0 (pc := 13) dX8_hasPlace_13 ?_
      refine pv_getR (pc := 14) dX8_hasPlace_14 fg_X8_9_8 rfl (by omega) (sx_sh hT hs8) (rx_ce hR hs8) ?_
      refine pv_alen (pc := 17) dX8_hasPlace_17 (sx_ce hT hs8) rfl ?_
      refine pv_icmp_ge (pc := 18) (tgt := 25) dX8_hasPlace_18 (by decide) (fun h18 => ?_) (fun h18 => ?_)
      · refine pv_iconst (pc := 25) (v := 0) dX8_hasPlace_25 (by decide) ?_
        refine pv_iret (pc := 26) dX8_hasPlace_26 rfl rfl ?_
        refine ⟨congrArg (fun z => some (Value.int z)) ?_, rfl, rfl, rfl, rfl⟩
        unfold x_has
        first
          | (have f1 := h1; rw [decide_eq_false (p := 0 ≤ i) (by rw [i_le]; rw [i_lt] at f1; omega)]; rfl)
          | (have f1 := h9; rw [decide_eq_false (p := i < I (45 + 2 * k) 2) f1, Bool.and_false]; rfl)
          | (have f1 := h18; rw [decide_eq_false (p := i < 160) f1, Bool.and_false]; rfl)
          | (have f1 := h1; have f2 := h9; have f3 := h18; rw [decide_eq_true (p := 0 ≤ i) (by rw [i_le]; rw [i_lt] at f1; omega), decide_eq_true (p := i < I (45 + 2 * k) 2) (by first | exact f2 | exact Classical.not_not.mp f2), decide_eq_true (p := i < 160) (by first | exact f3 | exact Classical.not_not.mp f3)]; rfl)
      · refine pv_iconst (pc := 21) (v := 1) dX8_hasPlace_21 (by decide) ?_
        refine pv_goto (pc := 22) (tgt := 26) dX8_hasPlace_22 (by decide) ?_
        refine pv_iret (pc := 26) dX8_hasPlace_26 rfl rfl ?_
        refine ⟨congrArg (fun z => some (Value.int z)) ?_, rfl, rfl, rfl, rfl⟩
        unfold x_has
        first
          | (have f1 := h1; rw [decide_eq_false (p := 0 ≤ i) (by rw [i_le]; rw [i_lt] at f1; omega)]; rfl)
          | (have f1 := h9; rw [decide_eq_false (p := i < I (45 + 2 * k) 2) f1, Bool.and_false]; rfl)
          | (have f1 := h18; rw [decide_eq_false (p := i < 160) f1, Bool.and_false]; rfl)
          | (have f1 := h1; have f2 := h9; have f3 := h18; rw [decide_eq_true (p := 0 ≤ i) (by rw [i_le]; rw [i_lt] at f1; omega), decide_eq_true (p := i < I (45 + 2 * k) 2) (by first | exact f2 | exact Classical.not_not.mp f2), decide_eq_true (p := i < 160) (by first | exact f3 | exact Classical.not_not.mp f3)]; rfl)

set_option maxRecDepth 100000 in
set_option maxHeartbeats 4000000 in
theorem c_X8_whole {G : pv_G} {d : Nat} {i : Int32} {k : Nat} {t : pv_T} {I : pv_I} {L : pv_L} {Rf : pv_R} (hT : sh_ok t) (hR : rf_ok Rf) (hs8 : k < 8) (hd : 1 ≤ d) : pv_Mt G mX8_whole d 0 0 [.ref (45 + 2 * k), .int i] t I L Rf (pv_is (some (.long (if x_has I k i = true then L (46 + 2 * k) i.toNatClampNeg else 0))) t I L Rf) := by
  refine pv_mt mgX8_whole.2.2.2.2.2 [.ref (45 + 2 * k), .int i] rfl (Nat.le_of_ble_eq_true rfl) ?_
  refine pv_aload_0 (pc := 0) dX8_whole_0 ?_
  refine pv_iload_1 (pc := 1) dX8_whole_1 ?_
  refine pv_callV1 (pc := 2) dX8_whole_2 mgX8_hasPlace lv_X8_34_8 (by omega) (sx_sh hT hs8) (by omega) (c_X8_hasPlace hT hR hs8) rfl rfl (by decide) ?_
  refine pv_if_eq (pc := 5) (tgt := 17) dX8_whole_5 (by decide) (fun h5 => ?_) (fun h5 => ?_)
  · refine pv_lconst (pc := 17) (v := 0) dX8_whole_17 (by decide) ?_
    refine pv_lret (pc := 18) dX8_whole_18 rfl ?_
    refine ⟨congrArg (fun z => some (Value.long z)) ?_, rfl, rfl, rfl, rfl⟩
    first
      | (have f1 := (pv_b_0 _).mp h5; rw [if_neg (by rw [f1]; decide)])
      | (have f1 := (pv_b_n0 _).mp h5; rw [if_pos f1])
  · refine pv_aload_0 (pc := 8) dX8_whole_8 ?_
    refine pv_getR (pc := 9) dX8_whole_9 fg_X8_9_8 rfl (by omega) (sx_sh hT hs8) (rx_ce hR hs8) ?_
    refine pv_iload_1 (pc := 12) dX8_whole_12 ?_
    refine pv_laloadj (pc := 13) dX8_whole_13 (by omega) (sx_ce hT hs8) rfl (x_has_in ((pv_b_n0 _).mp h5)).1 ?_
    refine pv_goto (pc := 14) (tgt := 18) dX8_whole_14 (by decide) ?_
    refine pv_lret (pc := 18) dX8_whole_18 rfl ?_
    refine ⟨congrArg (fun z => some (Value.long z)) ?_, rfl, rfl, rfl, rfl⟩
    first
      | (have f1 := (pv_b_0 _).mp h5; rw [if_neg (by rw [f1]; decide)])
      | (have f1 := (pv_b_n0 _).mp h5; rw [if_pos f1])

set_option maxRecDepth 100000 in
set_option maxHeartbeats 4000000 in
theorem c_X8_asInt {G : pv_G} {d : Nat} {i : Int32} {k : Nat} {t : pv_T} {I : pv_I} {L : pv_L} {Rf : pv_R} (hT : sh_ok t) (hR : rf_ok Rf) (hs8 : k < 8) : pv_Mt G mX8_asInt d 0 0 [.ref (45 + 2 * k), .int i] t I L Rf (pv_is (some (.int (if x_has I k i = true then (L (46 + 2 * k) i.toNatClampNeg).toInt32 else 0))) t I L Rf) := by
  refine pv_mt mgX8_asInt.2.2.2.2.2 [.ref (45 + 2 * k), .int i] rfl (Nat.le_of_ble_eq_true rfl) ?_
  refine pv_iload_1 (pc := 0) dX8_asInt_0 ?_
  refine pv_if_lt (pc := 1) (tgt := 31) dX8_asInt_1 (by decide) (fun h1 => ?_) (fun h1 => ?_)
  · refine pv_iconst (pc := 31) (v := 0) dX8_asInt_31 (by decide) ?_
    refine pv_iret (pc := 32) dX8_asInt_32 rfl rfl ?_
    refine ⟨congrArg (fun z => some (Value.int z)) ?_, rfl, rfl, rfl, rfl⟩
    unfold x_has
    first
      | (have f1 := h1; rw [decide_eq_false (p := 0 ≤ i) (by rw [i_le]; rw [i_lt] at f1; omega)]; rfl)
      | (have f1 := h9; rw [decide_eq_false (p := i < I (45 + 2 * k) 2) f1, Bool.and_false]; rfl)
      | (have f1 := h18; rw [decide_eq_false (p := i < 160) f1, Bool.and_false]; rfl)
      | (have f1 := h1; have f2 := h9; have f3 := h18; rw [decide_eq_true (p := 0 ≤ i) (by rw [i_le]; rw [i_lt] at f1; omega), decide_eq_true (p := i < I (45 + 2 * k) 2) (by first | exact f2 | exact Classical.not_not.mp f2), decide_eq_true (p := i < 160) (by first | exact f3 | exact Classical.not_not.mp f3)]; rfl)
  · refine pv_iload_1 (pc := 4) dX8_asInt_4 ?_
    refine pv_aload_0 (pc := 5) dX8_asInt_5 ?_
    refine pv_getI (pc := 6) dX8_asInt_6 fg_X8_25_8 rfl (by omega) (sx_sh hT hs8) ?_
    refine pv_icmp_ge (pc := 9) (tgt := 31) dX8_asInt_9 (by decide) (fun h9 => ?_) (fun h9 => ?_)
    · refine pv_iconst (pc := 31) (v := 0) dX8_asInt_31 (by decide) ?_
      refine pv_iret (pc := 32) dX8_asInt_32 rfl rfl ?_
      refine ⟨congrArg (fun z => some (Value.int z)) ?_, rfl, rfl, rfl, rfl⟩
      unfold x_has
      first
        | (have f1 := h1; rw [decide_eq_false (p := 0 ≤ i) (by rw [i_le]; rw [i_lt] at f1; omega)]; rfl)
        | (have f1 := h9; rw [decide_eq_false (p := i < I (45 + 2 * k) 2) f1, Bool.and_false]; rfl)
        | (have f1 := h18; rw [decide_eq_false (p := i < 160) f1, Bool.and_false]; rfl)
        | (have f1 := h1; have f2 := h9; have f3 := h18; rw [decide_eq_true (p := 0 ≤ i) (by rw [i_le]; rw [i_lt] at f1; omega), decide_eq_true (p := i < I (45 + 2 * k) 2) (by first | exact f2 | exact Classical.not_not.mp f2), decide_eq_true (p := i < 160) (by first | exact f3 | exact Classical.not_not.mp f3)]; rfl)
    · refine pv_iload_1 (pc := 12) dX8_asInt_12 ?_
      refine pv_aload_0 (pc := 13) dX8_asInt_13 ?_
      refine pv_getR (pc := 14) dX8_asInt_14 fg_X8_9_8 rfl (by omega) (sx_sh hT hs8) (rx_ce hR hs8) ?_
      refine pv_alen (pc := 17) dX8_asInt_17 (sx_ce hT hs8) rfl ?_
      refine pv_icmp_ge (pc := 18) (tgt := 31) dX8_asInt_18 (by decide) (fun h18 => ?_) (fun h18 => ?_)
      · refine pv_iconst (pc := 31) (v := 0) dX8_asInt_31 (by decide) ?_
        refine pv_iret (pc := 32) dX8_asInt_32 rfl rfl ?_
        refine ⟨congrArg (fun z => some (Value.int z)) ?_, rfl, rfl, rfl, rfl⟩
        unfold x_has
        first
          | (have f1 := h1; rw [decide_eq_false (p := 0 ≤ i) (by rw [i_le]; rw [i_lt] at f1; omega)]; rfl)
          | (have f1 := h9; rw [decide_eq_false (p := i < I (45 + 2 * k) 2) f1, Bool.and_false]; rfl)
          | (have f1 := h18; rw [decide_eq_false (p := i < 160) f1, Bool.and_false]; rfl)
          | (have f1 := h1; have f2 := h9; have f3 := h18; rw [decide_eq_true (p := 0 ≤ i) (by rw [i_le]; rw [i_lt] at f1; omega), decide_eq_true (p := i < I (45 + 2 * k) 2) (by first | exact f2 | exact Classical.not_not.mp f2), decide_eq_true (p := i < 160) (by first | exact f3 | exact Classical.not_not.mp f3)]; rfl)
      · refine pv_aload_0 (pc := 21) dX8_asInt_21 ?_
        refine pv_getR (pc := 22) dX8_asInt_22 fg_X8_9_8 rfl (by omega) (sx_sh hT hs8) (rx_ce hR hs8) ?_
        refine pv_iload_1 (pc := 25) dX8_asInt_25 ?_
        refine pv_laloadj (pc := 26) dX8_asInt_26 (by omega) (sx_ce hT hs8) rfl (pv_in_of (by rw [i_lt, Int32.toInt_zero] at h1; omega) (by have f3 : i < 160 := (by first | exact h18 | exact Classical.not_not.mp h18); rw [i_lt, show (160 : Int32).toInt = 160 by decide] at f3; omega)) ?_
        refine pv_l2i (pc := 27) dX8_asInt_27 ?_
        refine pv_goto (pc := 28) (tgt := 32) dX8_asInt_28 (by decide) ?_
        refine pv_iret (pc := 32) dX8_asInt_32 rfl rfl ?_
        refine ⟨congrArg (fun z => some (Value.int z)) ?_, rfl, rfl, rfl, rfl⟩
        unfold x_has
        first
          | (have f1 := h1; rw [decide_eq_false (p := 0 ≤ i) (by rw [i_le]; rw [i_lt] at f1; omega)]; rfl)
          | (have f1 := h9; rw [decide_eq_false (p := i < I (45 + 2 * k) 2) f1, Bool.and_false]; rfl)
          | (have f1 := h18; rw [decide_eq_false (p := i < 160) f1, Bool.and_false]; rfl)
          | (have f1 := h1; have f2 := h9; have f3 := h18; rw [decide_eq_true (p := 0 ≤ i) (by rw [i_le]; rw [i_lt] at f1; omega), decide_eq_true (p := i < I (45 + 2 * k) 2) (by first | exact f2 | exact Classical.not_not.mp f2), decide_eq_true (p := i < 160) (by first | exact f3 | exact Classical.not_not.mp f3)]; rfl)

