/-! the class: a barn's items -/
def tB (J : pv_I) (t0 : pv_T) (I0 : pv_I) (L0 : pv_L) (Rf0 : pv_R) (k e : Nat) (c : Nat → Int32) (J1 : pv_I) (K1 : pv_L) (t : pv_T) (I : pv_I) (L : pv_L) (Rf : pv_R) (r : Nat) : Prop := pv_al (J 0 0).toInt t0 Rf0 t Rf ∧ (∀ a j, a < t0.2 → a ≠ 25 → a ≠ 26 → ¬ (a = 45 + 2 * k ∧ 4 ≤ j) → I a j = I0 a j) ∧ (∀ a j, a < t0.2 → a ≠ 25 → L a j = L0 a j) ∧ tX c e k r I L ∧ XHw 25 (J1 0 0) (J1 0 1) (J1 0 2) (J1 0 3) (K1 0 0) (K1 0 1) (J1 4) I L ∧ XF J1 t I Rf ∧ WF J1 K1 ∧ (J 0 0).toInt ≤ (J1 0 0).toInt
def tE (J : pv_I) (t0 : pv_T) (I0 : pv_I) (L0 : pv_L) (Rf0 : pv_R) (k x : Nat) (t : pv_T) (I : pv_I) (L : pv_L) (Rf : pv_R) : Prop := pv_al (J 0 0).toInt t0 Rf0 t Rf ∧ (∀ a j, a < t0.2 → a ≠ 25 → a ≠ 26 → ¬ (a = 45 + 2 * k ∧ 4 ≤ j) → I a j = I0 a j) ∧ (∀ a j, a < t0.2 → a ≠ 25 → L a j = L0 a j) ∧ I (45 + 2 * k) 6 = Int32.ofNat x
def q_it (J : pv_I) (t0 : pv_T) (I0 : pv_I) (L0 : pv_L) (Rf0 : pv_R) (k e : Nat) (c : Nat → Int32) (B : BR) : pv_Q := fun v t1 I1 L1 R1 => (∃ r1 J2 K2, B = .ok (r1, J2, K2) ∧ v = some (.int 1) ∧ tB J t0 I0 L0 Rf0 k e c J2 K2 t1 I1 L1 R1 r1) ∨ (∃ x, B = .error x ∧ v = some (.int 0) ∧ tE J t0 I0 L0 Rf0 k x t1 I1 L1 R1)
theorem tB.rd {J : pv_I} {t0 : pv_T} {I0 : pv_I} {L0 : pv_L} {Rf0 : pv_R} {k e : Nat} {c : Nat → Int32} {J1 : pv_I} {K1 : pv_L} {t : pv_T} {I : pv_I} {L : pv_L} {Rf : pv_R} {I1 : pv_I} {r r1 : Nat} (h : tB J t0 I0 L0 Rf0 k e c J1 K1 t I L Rf r) (hk8 : k < 8) (hs : sF k I I1) (h4 : I1 (45 + 2 * k) 4 = Int32.ofNat r1) (hr : r1 ≤ e) : tB J t0 I0 L0 Rf0 k e c J1 K1 t I1 L Rf r1 := by
  obtain ⟨a1, a2, a3, a4, a5, a6, a7, a8⟩ := h
  exact ⟨a1, fun a j q1 q2 q3 q4 => (hs a j q4).trans (a2 a j q1 q2 q3 q4), a3, a4.fr hs h4 hr, a5.cg (fun j => hs 25 j (by omega)) (fun j => hs 26 j (by omega)) (fun _ => rfl), XF.cg a6 (fun a j q => hs a j (by omega)), a7, a8⟩
theorem tB.er {J : pv_I} {t0 : pv_T} {I0 : pv_I} {L0 : pv_L} {Rf0 : pv_R} {k e : Nat} {c : Nat → Int32} {J1 : pv_I} {K1 : pv_L} {t : pv_T} {I : pv_I} {L : pv_L} {Rf : pv_R} {I1 : pv_I} {r x : Nat} (h : tB J t0 I0 L0 Rf0 k e c J1 K1 t I L Rf r) (hs : sF k I I1) (h6 : I1 (45 + 2 * k) 6 = Int32.ofNat x) : tE J t0 I0 L0 Rf0 k x t I1 L Rf := by
  obtain ⟨a1, a2, a3, a4, a5, a6, a7, a8⟩ := h
  exact ⟨a1, fun a j q1 q2 q3 q4 => (hs a j q4).trans (a2 a j q1 q2 q3 q4), a3, h6⟩
theorem tB.hall {J : pv_I} {t0 : pv_T} {I0 : pv_I} {L0 : pv_L} {Rf0 : pv_R} {k e : Nat} {c : Nat → Int32} {J1 : pv_I} {K1 : pv_L} {t : pv_T} {I : pv_I} {L : pv_L} {Rf : pv_R} {J2 : pv_I} {K2 : pv_L} {I1 : pv_I} {L1 : pv_L} {r : Nat} (h : tB J t0 I0 L0 Rf0 k e c J1 K1 t I L Rf r) (hk8 : k < 8) (hT0 : sh_ok t0) (f : fH 25 I L I1 L1) (hx : XHw 25 (J2 0 0) (J2 0 1) (J2 0 2) (J2 0 3) (K2 0 0) (K2 0 1) (J2 4) I1 L1) (hJ : J2 0 0 = J1 0 0 ∧ J2 1 = J1 1 ∧ J2 2 = J1 2 ∧ J2 3 = J1 3) (hW : WF J2 K2) : tB J t0 I0 L0 Rf0 k e c J2 K2 t I1 L1 Rf r := by
  obtain ⟨a1, a2, a3, a4, a5, a6, a7, a8⟩ := h
  obtain ⟨j0, j1, j2, j3⟩ := hJ
  refine ⟨a1, fun a j q1 q2 q3 q4 => (f.1 a j q2 q3).trans (a2 a j q1 q2 q3 q4), fun a j q1 q2 => (f.2 a j q2).trans (a3 a j q1 q2), ⟨(f.1 _ _ (by omega) (by omega)).trans a4.1, a4.2.1, fun j hj => by rw [f.2 _ _ (by omega)]; exact a4.2.2.1 j hj, (f.1 _ _ (by omega) (by omega)).trans a4.2.2.2.1, a4.2.2.2.2⟩, hx, ?_, hW, by rw [j0]; exact a8⟩
  have g := XF.cg a6 (I1 := I1) (fun a j q => f.1 a j (by omega) (by omega))
  intro i hi
  rw [j0] at hi
  rw [j1, j2, j3]
  exact g i hi
theorem c_isNum_b {G : pv_G} {d : Nat} {p q : Int64} {b : Bool} {t : pv_T} {I : pv_I} {L : pv_L} {Rf : pv_R} (hn : s_num p q = b) (hT : sh_ok t) (hd : 1 ≤ d) : pv_Mt G mX11_isNumber d 0 0 [.long p, .long q] t I L Rf (pv_is (some (.int (pv_b b))) t I L Rf) := hn ▸ c_X11_isNumber hT hd
theorem i_nn {x : Int32} (h : 0 ≤ x.toInt) : ¬ x = -1 := fun q => by rw [q] at h; exact absurd h (by decide)
def x_stt (c : Nat → Int32) (e r : Nat) (J1 : pv_I) (K1 : pv_L) : BR := match x_rn c e r with
  | none => .error (x_rf c e r)
  | some p => match x_rn c e p.1 with
    | none => .error (x_rf c e p.1)
    | some q => if s_num p.2.toInt64 q.2.toInt64 = true then .ok (q.1, J1, w_pq K1 p.2.toInt64 q.2.toInt64) else .error (p.1 + 1)
def x_cll (c : Nat → Int32) (e r : Nat) (J1 : pv_I) (K1 : pv_L) : BR := match x_rn c e r with
  | none => .error (x_rf c e r)
  | some p => if (0 ≤ p.2 ∧ p.2 < J1 0 0) ∧ (w_cal J1 K1 p.2.toNatClampNeg).1 = true then .ok (p.1, (w_cal J1 K1 p.2.toNatClampNeg).2) else .error (r + 1)

set_option maxRecDepth 100000 in
set_option maxHeartbeats 4000000 in
theorem c_X11_readStart {G : pv_G} {d : Nat} {J : pv_I} {t0 : pv_T} {I0 : pv_I} {L0 : pv_L} {Rf0 : pv_R} {k e : Nat} {c : Nat → Int32} {J1 : pv_I} {K1 : pv_L} {r : Nat} {t : pv_T} {I : pv_I} {L : pv_L} {Rf : pv_R} (hT0 : sh_ok t0) (hR0 : rf_ok Rf0) (hk8 : k < 8) (hB : tB J t0 I0 L0 Rf0 k e c J1 K1 t I L Rf r) (hd : 10 ≤ d) : pv_Mt G mX11_readStart d 0 0 [.ref 16, .ref (45 + 2 * k)] t I L Rf (q_it J t0 I0 L0 Rf0 k e c (x_stt c e r J1 K1)) := by
  refine pv_mt mgX11_readStart.2.2.2.2.2 [.ref 16, .ref (45 + 2 * k), .retAddr 0, .retAddr 0] rfl (Nat.le_of_ble_eq_true rfl) ?_
  have hT := hB.1.sh hT0
  have hR := hB.1.re hT0 hR0
  refine pv_aload_1 (pc := 0) dX11_readStart_0 ?_
  refine pv_callVq (pc := 1) dX11_readStart_1 mgX8_readNumber lv_X11_464_8 (by omega) (sx_sh hT hk8) (by omega) (c_X8_readNumber hT hR hk8 hB.2.2.2.1 (by omega)) rfl rfl (by decide) (fun v t I L Rf hq => ?_)
  obtain ⟨rfl, rfl, rfl, hs1, hc1⟩ := hq
  rcases hc1 with ⟨p, e1, rfl, p0, p1, h4, h5, hpe, hplt⟩ | ⟨e1, rfl, h6⟩
  · have hB1 := hB.rd hk8 hs1 h4 hpe
    refine pv_istore_2 (pc := 4) dX11_readStart_4 (by decide) rfl ?_
    refine pv_iload_2 (pc := 5) dX11_readStart_5 ?_
    refine pv_iconst (pc := 6) (v := (-1)) dX11_readStart_6 (by decide) ?_
    refine pv_icmp_ne (pc := 7) (tgt := 14) dX11_readStart_7 (by decide) (fun h7 => ?_) (fun h7 => absurd h7 (i_nn p0))
    refine pv_aload_1 (pc := 14) dX11_readStart_14 ?_
    refine pv_callVq (pc := 15) dX11_readStart_15 mgX8_readNumber lv_X11_464_8 (by omega) (sx_sh hT hk8) (by omega) (c_X8_readNumber hT hR hk8 hB1.2.2.2.1 (by omega)) rfl rfl (by decide) (fun v t I L Rf hq => ?_)
    obtain ⟨rfl, rfl, rfl, hs2, hc2⟩ := hq
    rcases hc2 with ⟨q, e2, rfl, q0, q1, g4, g5, hqe, hqlt⟩ | ⟨e2, rfl, g6⟩
    · have hB2 := hB1.rd hk8 hs2 g4 hqe
      cases hn : s_num p.2.toInt64 q.2.toInt64 with
      | true =>
        refine pv_istore_3 (pc := 18) dX11_readStart_18 (by decide) rfl ?_
        refine pv_iload_3 (pc := 19) dX11_readStart_19 ?_
        refine pv_iconst (pc := 20) (v := (-1)) dX11_readStart_20 (by decide) ?_
        refine pv_icmp_eq (pc := 21) (tgt := 42) dX11_readStart_21 (by decide) (fun h21 => absurd h21 (i_nn q0)) (fun h21 => ?_)
        refine pv_aload_1 (pc := 24) dX11_readStart_24 ?_
        refine pv_aload_1 (pc := 25) dX11_readStart_25 ?_
        refine pv_getI (pc := 26) dX11_readStart_26 fg_X11_467_8 rfl (by omega) (sx_sh hT hk8) ?_
        refine pv_iload_2 (pc := 29) dX11_readStart_29 ?_
        refine pv_i2l (pc := 30) dX11_readStart_30 ?_
        refine pv_iload_3 (pc := 31) dX11_readStart_31 ?_
        refine pv_i2l (pc := 32) dX11_readStart_32 ?_
        refine pv_callS1 (pc := 33) dX11_readStart_33 mgX11_isNumber ls_X11_161 (by omega) (c_isNum_b (b := true) hn hT (by omega)) rfl rfl (Nat.le_of_ble_eq_true rfl) ?_
        refine pv_callV1 (pc := 36) dX11_readStart_36 mgX8_fits lv_X11_447_8 (by omega) (sx_sh hT hk8) (by omega) (c_X8_fits (b := true) hT hR hk8) rfl rfl (by decide) ?_
        refine pv_if_ne (pc := 39) (tgt := 44) dX11_readStart_39 (by decide) (fun _ => ?_) (fun q => absurd q (by decide))
        refine pv_aload_0 (pc := 44) dX11_readStart_44 ?_
        refine pv_getR (pc := 45) dX11_readStart_45 fg_X11_38_11 rfl (by decide) (sx_16 hT) (rx_16_6 hR) ?_
        refine pv_iload_2 (pc := 48) dX11_readStart_48 ?_
        refine pv_i2l (pc := 49) dX11_readStart_49 ?_
        refine pv_iload_3 (pc := 50) dX11_readStart_50 ?_
        refine pv_i2l (pc := 51) dX11_readStart_51 ?_
        refine pv_callV0 (pc := 52) dX11_readStart_52 mgX4_become lv_X11_165_4 (by decide) (sx_25 hT) (by omega) (c_X4_become (by decide) (sx_25 hT)) rfl rfl (by decide) ?_
        refine pv_iconst (pc := 55) (v := 1) dX11_readStart_55 (by decide) ?_
        refine pv_iret (pc := 56) dX11_readStart_56 rfl rfl ?_
        refine Or.inl ⟨_, _, _, ?_, rfl, hB2.hall (K2 := w_pq K1 p.2.toInt64 q.2.toInt64) (J2 := J1) hk8 hT0 ((fH.rf.uL 1 _).uL 2 _) ?_ ⟨rfl, rfl, rfl, rfl⟩ (hB2.2.2.2.2.2.2.1.pq ((s_num_iff _ _).mp hn))⟩
        · unfold x_stt; rw [e1]
          show (match x_rn c e p.1 with | none => _ | some q => _) = _
          rw [e2]
          show (if s_num p.2.toInt64 q.2.toInt64 = true then _ else _) = _
          rw [if_pos hn]
        · obtain ⟨y1, y2, y3, y4, y5, y6, y7⟩ := hB2.2.2.2.2.1
          exact ⟨rfl, rfl, y3, y4, y5, y6, y7⟩
      | false =>
        refine pv_istore_3 (pc := 18) dX11_readStart_18 (by decide) rfl ?_
        refine pv_iload_3 (pc := 19) dX11_readStart_19 ?_
        refine pv_iconst (pc := 20) (v := (-1)) dX11_readStart_20 (by decide) ?_
        refine pv_icmp_eq (pc := 21) (tgt := 42) dX11_readStart_21 (by decide) (fun h21 => absurd h21 (i_nn q0)) (fun h21 => ?_)
        refine pv_aload_1 (pc := 24) dX11_readStart_24 ?_
        refine pv_aload_1 (pc := 25) dX11_readStart_25 ?_
        refine pv_getI (pc := 26) dX11_readStart_26 fg_X11_467_8 rfl (by omega) (sx_sh hT hk8) ?_
        refine pv_iload_2 (pc := 29) dX11_readStart_29 ?_
        refine pv_i2l (pc := 30) dX11_readStart_30 ?_
        refine pv_iload_3 (pc := 31) dX11_readStart_31 ?_
        refine pv_i2l (pc := 32) dX11_readStart_32 ?_
        refine pv_callS1 (pc := 33) dX11_readStart_33 mgX11_isNumber ls_X11_161 (by omega) (c_isNum_b (b := false) hn hT (by omega)) rfl rfl (Nat.le_of_ble_eq_true rfl) ?_
        refine pv_callV1 (pc := 36) dX11_readStart_36 mgX8_fits lv_X11_447_8 (by omega) (sx_sh hT hk8) (by omega) (c_X8_fits (b := false) hT hR hk8) rfl rfl (by decide) ?_
        refine pv_if_ne (pc := 39) (tgt := 44) dX11_readStart_39 (by decide) (fun q => absurd q (by decide)) (fun _ => ?_)
        refine pv_iconst (pc := 42) (v := 0) dX11_readStart_42 (by decide) ?_
        refine pv_iret (pc := 43) dX11_readStart_43 rfl rfl ?_
        refine Or.inr ⟨p.1 + 1, ?_, rfl, hB2.er (sF.rf.u 6 _ (by omega)) (by rw [if_neg (by decide), pv_u_eq, if_pos rfl]; exact g5)⟩
        unfold x_stt; rw [e1]
        show (match x_rn c e p.1 with | none => _ | some q => _) = _
        rw [e2]
        show (if s_num p.2.toInt64 q.2.toInt64 = true then _ else _) = _
        rw [if_neg (by rw [hn]; decide)]
    · skip
      refine pv_istore_3 (pc := 18) dX11_readStart_18 (by decide) rfl ?_
      refine pv_iload_3 (pc := 19) dX11_readStart_19 ?_
      refine pv_iconst (pc := 20) (v := (-1)) dX11_readStart_20 (by decide) ?_
      refine pv_icmp_eq (pc := 21) (tgt := 42) dX11_readStart_21 (by decide) (fun _ => ?_) (fun q => absurd q (by decide))
      refine pv_iconst (pc := 42) (v := 0) dX11_readStart_42 (by decide) ?_
      refine pv_iret (pc := 43) dX11_readStart_43 rfl rfl ?_
      refine Or.inr ⟨_, ?_, rfl, hB1.er hs2 g6⟩
      unfold x_stt; rw [e1]
      show (match x_rn c e p.1 with | none => _ | some q => _) = _
      rw [e2]
  · skip
    refine pv_istore_2 (pc := 4) dX11_readStart_4 (by decide) rfl ?_
    refine pv_iload_2 (pc := 5) dX11_readStart_5 ?_
    refine pv_iconst (pc := 6) (v := (-1)) dX11_readStart_6 (by decide) ?_
    refine pv_icmp_ne (pc := 7) (tgt := 14) dX11_readStart_7 (by decide) (fun q => absurd q (by decide)) (fun _ => ?_)
    refine pv_iconst (pc := 10) (v := (-1)) dX11_readStart_10 (by decide) ?_
    refine pv_goto (pc := 11) (tgt := 18) dX11_readStart_11 (by decide) ?_
    refine pv_istore_3 (pc := 18) dX11_readStart_18 (by decide) rfl ?_
    refine pv_iload_3 (pc := 19) dX11_readStart_19 ?_
    refine pv_iconst (pc := 20) (v := (-1)) dX11_readStart_20 (by decide) ?_
    refine pv_icmp_eq (pc := 21) (tgt := 42) dX11_readStart_21 (by decide) (fun _ => ?_) (fun q => absurd q (by decide))
    refine pv_iconst (pc := 42) (v := 0) dX11_readStart_42 (by decide) ?_
    refine pv_iret (pc := 43) dX11_readStart_43 rfl rfl ?_
    refine Or.inr ⟨_, ?_, rfl, hB.er hs1 h6⟩
    unfold x_stt; rw [e1]

theorem x_dn {h : Nat} {J1 : pv_I} {K1 : pv_L} {c : Nat → Int32} {n y : Int32} {p q : Int64} {I : pv_I} {L : pv_L} (g : XHw h (J1 0 0) (J1 0 1 + n) (J1 0 2 + y) (J1 0 3) p q c I L) : XHw h (w_dn J1 c n y 0 0) (w_dn J1 c n y 0 1) (w_dn J1 c n y 0 2) (w_dn J1 c n y 0 3) (w_pq K1 p q 0 0) (w_pq K1 p q 0 1) (w_dn J1 c n y 4) I L := by
  obtain ⟨g1, g2, g3, g4, g5, g6, g7⟩ := g
  refine ⟨g1, g2, ?_, g4, g5, ?_, fun j hj => ?_⟩
  · unfold w_dn; rw [pv_u_o _ (by omega), pv_u_o _ (by omega), w_st_o (by decide)]; exact g3
  · unfold w_dn; rw [pv_u_o _ (by omega), pv_u_o _ (by omega), w_st_o (by decide)]; exact g6
  · unfold w_dn; rw [pv_u_o _ (by omega), pv_u_o _ (by omega), w_st_4 hj]; exact g7 j hj
set_option maxRecDepth 100000 in
set_option maxHeartbeats 4000000 in
theorem c_X11_readCall {G : pv_G} {d : Nat} {J : pv_I} {t0 : pv_T} {I0 : pv_I} {L0 : pv_L} {Rf0 : pv_R} {k e : Nat} {c : Nat → Int32} {J1 : pv_I} {K1 : pv_L} {r : Nat} {t : pv_T} {I : pv_I} {L : pv_L} {Rf : pv_R} (hT0 : sh_ok t0) (hR0 : rf_ok Rf0) (hk8 : k < 8) (hB : tB J t0 I0 L0 Rf0 k e c J1 K1 t I L Rf r) (hd : 14 ≤ d) : pv_Mt G mX11_readCall d 0 0 [.ref 16, .ref (45 + 2 * k)] t I L Rf (q_it J t0 I0 L0 Rf0 k e c (x_cll c e r J1 K1)) := by
  refine pv_mt mgX11_readCall.2.2.2.2.2 [.ref 16, .ref (45 + 2 * k), .retAddr 0] rfl (Nat.le_of_ble_eq_true rfl) ?_
  have hT := hB.1.sh hT0
  have hR := hB.1.re hT0 hR0
  refine pv_aload_1 (pc := 0) dX11_readCall_0 ?_
  refine pv_callVq (pc := 1) dX11_readCall_1 mgX8_readNumber lv_X11_464_8 (by omega) (sx_sh hT hk8) (by omega) (c_X8_readNumber hT hR hk8 hB.2.2.2.1 (by omega)) rfl rfl (by decide) (fun v t I L Rf hq => ?_)
  obtain ⟨rfl, rfl, rfl, hs1, hc1⟩ := hq
  rcases hc1 with ⟨p, e1, rfl, p0, p1, h4, h5, hpe, hplt⟩ | ⟨e1, rfl, h6⟩
  · have hB1 := hB.rd hk8 hs1 h4 hpe
    have hx3 := hB1.2.2.2.2.1.2.2.1
    by_cases hF : w_isF J1 p.2
    · obtain ⟨hF8, hFn2⟩ := hF.nat hB1.2.2.2.2.2.2.1
      obtain ⟨x, fx1, fx2, fx3, fx4, fx5, fx6, fx7, fx8, hfb⟩ := hB1.2.2.2.2.2.1 _ hFn2
      obtain ⟨hk1, hk2, hk3⟩ := hB1.2.2.2.2.2.2.1.2.1 _ hFn2
      have hFc : p.2 < I 25 3 := by rw [hx3]; exact hF.2
      refine pv_istore_2 (pc := 4) dX11_readCall_4 (by decide) rfl ?_
      refine pv_iload_2 (pc := 5) dX11_readCall_5 ?_
      refine pv_iconst (pc := 6) (v := (-1)) dX11_readCall_6 (by decide) ?_
      refine pv_icmp_eq (pc := 7) (tgt := 41) dX11_readCall_7 (by decide) (fun h7 => absurd h7 (i_nn p0)) (fun h7 => ?_)
      refine pv_aload_1 (pc := 10) dX11_readCall_10 ?_
      refine pv_aload_1 (pc := 11) dX11_readCall_11 ?_
      refine pv_getI (pc := 12) dX11_readCall_12 fg_X11_467_8 rfl (by omega) (sx_sh hT hk8) ?_
      refine pv_aload_0 (pc := 15) dX11_readCall_15 ?_
      refine pv_getR (pc := 16) dX11_readCall_16 fg_X11_38_11 rfl (by decide) (sx_16 hT) (rx_16_6 hR) ?_
      refine pv_aload_0 (pc := 19) dX11_readCall_19 ?_
      refine pv_aload_0 (pc := 20) dX11_readCall_20 ?_
      refine pv_getR (pc := 21) dX11_readCall_21 fg_X11_38_11 rfl (by decide) (sx_16 hT) (rx_16_6 hR) ?_
      refine pv_iload_2 (pc := 24) dX11_readCall_24 ?_
      refine pv_callV1 (pc := 25) dX11_readCall_25 mgX11_figureAt lv_X11_114_11 (by decide) (sx_16 hT) (by omega) (c_X11_figureAt1 hT hR (by decide) (sx_25 hT) hF8 hFc fx1) rfl rfl (Nat.le_of_ble_eq_true rfl) ?_
      refine pv_callVq (pc := 28) dX11_readCall_28 mgX4_dance lv_X11_196_4 (by decide) (sx_25 hT) (by omega) (c_X4_dance (k := J1 1 p.2.toNatClampNeg) (a := J1 2 p.2.toNatClampNeg) (cs := J1 3 p.2.toNatClampNeg) (hl_25 hT hR) hB1.2.2.2.2.1 hk1 hk2 fx2 fx4 fx7 fx8 (by omega)) rfl rfl (Nat.le_of_ble_eq_true rfl) (fun v t I L Rf hq => ?_)
      obtain ⟨rfl, rfl, hf2, ho⟩ := hq
      have emv := y_mv_room (k := J1 1 p.2.toNatClampNeg) (a := J1 2 p.2.toNatClampNeg) hB1.2.2.2.2.2.2.1.2.2.1 hk2
      rcases ho with ⟨y1, rfl, y2⟩ | ⟨y1, rfl, rfl, rfl⟩
      · skip
        refine pv_callV1 (pc := 31) dX11_readCall_31 mgX8_fits lv_X11_447_8 (by omega) (sx_sh hT hk8) (by omega) (c_X8_fits (b := true) hT hR hk8) rfl rfl (by decide) ?_
        refine pv_if_eq (pc := 34) (tgt := 41) dX11_readCall_34 (by decide) (fun q => absurd q (by decide)) (fun _ => ?_)
        refine pv_iconst (pc := 37) (v := 1) dX11_readCall_37 (by decide) ?_
        refine pv_goto (pc := 38) (tgt := 42) dX11_readCall_38 (by decide) ?_
        refine pv_iret (pc := 42) dX11_readCall_42 rfl rfl ?_
        have ec : w_cal J1 K1 p.2.toNatClampNeg = (true, w_dn J1 (f_C (J1 1 p.2.toNatClampNeg) (J1 2 p.2.toNatClampNeg) (J1 4)) 1 (J1 3 p.2.toNatClampNeg), w_pq K1 (f_P (J1 1 p.2.toNatClampNeg) (J1 2 p.2.toNatClampNeg) (K1 0 0) (K1 0 1)) (f_Q (J1 1 p.2.toNatClampNeg) (J1 2 p.2.toNatClampNeg) (K1 0 0) (K1 0 1))) := by unfold w_cal; rw [if_pos (by rw [← emv.1]; exact y1)]
        have hWc := WF.cal (K := K1) hB1.2.2.2.2.2.2.1 hF
        rw [ec] at hWc
        refine Or.inl ⟨p.1, _, _, ?_, rfl, hB1.hall hk8 hT0 hf2 (J2 := w_dn J1 (f_C (J1 1 p.2.toNatClampNeg) (J1 2 p.2.toNatClampNeg) (J1 4)) 1 (J1 3 p.2.toNatClampNeg)) (K2 := w_pq K1 (f_P (J1 1 p.2.toNatClampNeg) (J1 2 p.2.toNatClampNeg) (K1 0 0) (K1 0 1)) (f_Q (J1 1 p.2.toNatClampNeg) (J1 2 p.2.toNatClampNeg) (K1 0 0) (K1 0 1))) ?_ ?_ hWc⟩
        · unfold x_cll; rw [e1]
          show (if (0 ≤ p.2 ∧ p.2 < J1 0 0) ∧ (w_cal J1 K1 p.2.toNatClampNeg).1 = true then _ else _) = _
          rw [if_pos ⟨hF, by rw [ec]⟩, ec]
        · exact x_dn y2
        · exact ⟨by unfold w_dn; rw [pv_u_o _ (by omega), pv_u_o _ (by omega), w_st_o (by decide)], by unfold w_dn; rw [pv_u_ne _ _ (by decide), pv_u_ne _ _ (by decide)]; funext j; exact w_st_o (by decide), by unfold w_dn; rw [pv_u_ne _ _ (by decide), pv_u_ne _ _ (by decide)]; funext j; exact w_st_o (by decide), by unfold w_dn; rw [pv_u_ne _ _ (by decide), pv_u_ne _ _ (by decide)]; funext j; exact w_st_o (by decide)⟩
      · skip
        refine pv_callV1 (pc := 31) dX11_readCall_31 mgX8_fits lv_X11_447_8 (by omega) (sx_sh hT hk8) (by omega) (c_X8_fits (b := false) hT hR hk8) rfl rfl (by decide) ?_
        refine pv_if_eq (pc := 34) (tgt := 41) dX11_readCall_34 (by decide) (fun _ => ?_) (fun q => absurd q (by decide))
        refine pv_iconst (pc := 41) (v := 0) dX11_readCall_41 (by decide) ?_
        refine pv_iret (pc := 42) dX11_readCall_42 rfl rfl ?_
        have ec : w_cal J1 K1 p.2.toNatClampNeg = (false, J1, K1) := by unfold w_cal; rw [if_neg (by rw [← emv.1, y1]; decide)]
        refine Or.inr ⟨r + 1, ?_, rfl, hB1.er (sF.rf.u 6 _ (by omega)) (by rw [if_neg (by decide), pv_u_eq, if_pos rfl]; exact h5)⟩
        unfold x_cll; rw [e1]
        show (if (0 ≤ p.2 ∧ p.2 < J1 0 0) ∧ (w_cal J1 K1 p.2.toNatClampNeg).1 = true then _ else _) = _
        rw [if_neg (fun q => by have z := q.2; rw [ec] at z; exact absurd (show false = true from z) (by decide))]
    · have hFn : ¬ (0 ≤ p.2 ∧ p.2 < I 25 3 ∧ p.2 < 8) := fun q => hF ⟨q.1, by rw [← hx3]; exact q.2.1⟩
      refine pv_istore_2 (pc := 4) dX11_readCall_4 (by decide) rfl ?_
      refine pv_iload_2 (pc := 5) dX11_readCall_5 ?_
      refine pv_iconst (pc := 6) (v := (-1)) dX11_readCall_6 (by decide) ?_
      refine pv_icmp_eq (pc := 7) (tgt := 41) dX11_readCall_7 (by decide) (fun h7 => absurd h7 (i_nn p0)) (fun h7 => ?_)
      refine pv_aload_1 (pc := 10) dX11_readCall_10 ?_
      refine pv_aload_1 (pc := 11) dX11_readCall_11 ?_
      refine pv_getI (pc := 12) dX11_readCall_12 fg_X11_467_8 rfl (by omega) (sx_sh hT hk8) ?_
      refine pv_aload_0 (pc := 15) dX11_readCall_15 ?_
      refine pv_getR (pc := 16) dX11_readCall_16 fg_X11_38_11 rfl (by decide) (sx_16 hT) (rx_16_6 hR) ?_
      refine pv_aload_0 (pc := 19) dX11_readCall_19 ?_
      refine pv_aload_0 (pc := 20) dX11_readCall_20 ?_
      refine pv_getR (pc := 21) dX11_readCall_21 fg_X11_38_11 rfl (by decide) (sx_16 hT) (rx_16_6 hR) ?_
      refine pv_iload_2 (pc := 24) dX11_readCall_24 ?_
      refine pv_callV1 (pc := 25) dX11_readCall_25 mgX11_figureAt lv_X11_114_11 (by decide) (sx_16 hT) (by omega) (c_X11_figureAt0 hT hR (by decide) (sx_25 hT) hFn) rfl rfl (Nat.le_of_ble_eq_true rfl) ?_
      refine pv_callV1 (pc := 28) dX11_readCall_28 mgX4_dance lv_X11_196_4 (by decide) (sx_25 hT) (by omega) (c_X4_danceN (hl_25 hT hR)) rfl rfl (Nat.le_of_ble_eq_true rfl) ?_
      refine pv_callV1 (pc := 31) dX11_readCall_31 mgX8_fits lv_X11_447_8 (by omega) (sx_sh hT hk8) (by omega) (c_X8_fits (b := false) hT hR hk8) rfl rfl (by decide) ?_
      refine pv_if_eq (pc := 34) (tgt := 41) dX11_readCall_34 (by decide) (fun _ => ?_) (fun q => absurd q (by decide))
      refine pv_iconst (pc := 41) (v := 0) dX11_readCall_41 (by decide) ?_
      refine pv_iret (pc := 42) dX11_readCall_42 rfl rfl ?_
      refine Or.inr ⟨r + 1, ?_, rfl, hB1.er (sF.rf.u 6 _ (by omega)) (by rw [if_neg (by decide), pv_u_eq, if_pos rfl]; exact h5)⟩
      unfold x_cll; rw [e1]
      show (if (0 ≤ p.2 ∧ p.2 < J1 0 0) ∧ (w_cal J1 K1 p.2.toNatClampNeg).1 = true then _ else _) = _
      rw [if_neg (fun q => hF q.1)]
  · skip
    refine pv_istore_2 (pc := 4) dX11_readCall_4 (by decide) rfl ?_
    refine pv_iload_2 (pc := 5) dX11_readCall_5 ?_
    refine pv_iconst (pc := 6) (v := (-1)) dX11_readCall_6 (by decide) ?_
    refine pv_icmp_eq (pc := 7) (tgt := 41) dX11_readCall_7 (by decide) (fun _ => ?_) (fun q => absurd q (by decide))
    refine pv_iconst (pc := 41) (v := 0) dX11_readCall_41 (by decide) ?_
    refine pv_iret (pc := 42) dX11_readCall_42 rfl rfl ?_
    refine Or.inr ⟨_, ?_, rfl, hB.er hs1 h6⟩
    unfold x_cll; rw [e1]

