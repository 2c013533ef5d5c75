/-! the class: a step danced; frees draws -/
def y_sok (s : Int32) (p q : Int64) : Bool := if s = 2 then true else y_ok (s_stepP s p q)
theorem h_sw_m (c : Nat → Int32) : h_sw (-1) c = h_sw 1 c := by
  unfold h_sw
  rw [if_neg (by decide), if_neg (by decide)]
theorem y_sok_r {s : Int32} {p q : Int64} (hs : s = 0 ∨ s = 1 ∨ s = 2) (hN : s_isN p q) : y_sok s p q = s_room (s_stepP s p q) (s_stepQ s p q) := by
  have hN0 := hN
  obtain ⟨n1, n2, n3, n4, n5⟩ := hN0
  have gen : ∀ P : Int64, y_ok P = s_room P q := fun P => by
    unfold y_ok s_room
    rw [decide_eq_true (p := q ≤ 1000000000000) (by rw [l64_le, show (1000000000000 : Int64).toInt = 1000000000000 by decide]; exact n2), Bool.and_true]
    congr 1
    · rw [← decide_not, decide_eq_decide, l64_lt, l64_le]; omega
    · rw [← decide_not, decide_eq_decide, l64_lt, l64_le]; omega
  unfold y_sok
  rcases hs with rfl | rfl | rfl
  · rw [if_neg (by decide)]; exact gen _
  · rw [if_neg (by decide)]; exact gen _
  · rw [if_pos rfl, room_turn hN]
theorem isN_stp {s : Int32} {p q : Int64} (hs : s = 0 ∨ s = 1 ∨ s = 2) (hN : s_isN p q) (hr : s_room (s_stepP s p q) (s_stepQ s p q) = true) : s_isN (s_stepP s p q) (s_stepQ s p q) := by
  rcases hs with rfl | rfl | rfl
  · have e := st_over p q
    have h := isN_add (k := (1 : Int32).toInt64) hN (by decide) (by rw [e]; exact hr)
    rw [e] at h; exact h
  · have e := st_under p q
    have h := isN_add (k := (-1 : Int32).toInt64) hN (by decide) (by rw [e]; exact hr)
    rw [e] at h; exact h
  · exact isN_turn hN
theorem WF.stp {J : pv_I} {K : pv_L} (h : WF J K) {s : Int32} (hs : s = 0 ∨ s = 1 ∨ s = 2) : WF (w_stp J K s).2.1 (w_stp J K s).2.2 := by
  unfold w_stp
  split
  · rename_i hr
    exact (h.dn _ _ _).pq (isN_stp hs h.2.2.1 hr)
  · exact h
theorem WF.f3 {J : pv_I} {K : pv_L} (h : WF J K) (v : Int32) : WF (pv_u J 0 3 v) K := by
  obtain ⟨h1, h2, h3, h4, h5, h6⟩ := h
  exact ⟨h1, h2, h3, h4, h5, h6⟩

set_option maxRecDepth 100000 in
set_option maxHeartbeats 4000000 in
theorem c_X4_step {G : pv_G} {d : Nat} {h : Nat} {n st sp sd s : Int32} {p q : Int64} {c : Nat → Int32} {t : pv_T} {I : pv_I} {L : pv_L} {Rf : pv_R} (hs : s = 0 ∨ s = 1 ∨ s = 2) (hh : hl_ok t Rf h) (hx : XHw h n st sp sd p q c I L) (hd : 4 ≤ d) : pv_Mt G mX4_step d 0 0 [.ref h, .int s] t I L Rf (fun v t1 I1 L1 R1 => t1 = t ∧ R1 = Rf ∧ fH h I L I1 L1 ∧ ((y_sok s p q = true ∧ v = some (.int 1) ∧ XHw h n (st + 1) (sp + 1) sd (s_stepP s p q) (s_stepQ s p q) (h_stc s c) I1 L1) ∨ (y_sok s p q = false ∧ v = some (.int 0) ∧ I1 = I ∧ L1 = L))) := by
  rcases hs with rfl | rfl | rfl
  · refine pv_mt mgX4_step.2.2.2.2.2 [.ref h, .int 0] rfl (Nat.le_of_ble_eq_true rfl) ?_
    refine pv_iload_1 (pc := 0) dX4_step_0 ?_
    refine pv_iconst (pc := 1) (v := 2) dX4_step_1 (by decide) ?_
    refine pv_icmp_ne (pc := 2) (tgt := 13) dX4_step_2 (by decide) (fun _ => ?_) (fun q => absurd q (by decide))
    refine pv_aload_0 (pc := 13) dX4_step_13 ?_
    refine pv_iload_1 (pc := 14) dX4_step_14 ?_
    refine pv_if_ne (pc := 15) (tgt := 22) dX4_step_15 (by decide) (fun q => absurd q (by decide)) (fun _ => ?_)
    refine pv_iconst (pc := 18) (v := 1) dX4_step_18 (by decide) ?_
    refine pv_goto (pc := 19) (tgt := 23) dX4_step_19 (by decide) ?_
    refine pv_callVq (pc := 23) dX4_step_23 mgX4_change lv_X4_58_4 hh.1 hh.2.2.1 (by omega) (c_X4_change hh hx) rfl rfl (by decide) (fun v t I L Rf hq => ?_)
    obtain ⟨rfl, rfl, hf, ho⟩ := hq
    rw [st_over] at ho
    rcases ho with ⟨e1, rfl, e2⟩ | ⟨e1, rfl, rfl, rfl⟩
    · skip
      refine pv_if_ne (pc := 26) (tgt := 31) dX4_step_26 (by decide) (fun _ => ?_) (fun q => absurd q (by decide))
      refine pv_aload_0 (pc := 31) dX4_step_31 ?_
      refine pv_dup (pc := 32) dX4_step_32 rfl ?_
      refine pv_getI (pc := 33) dX4_step_33 fg_X4_35_4 rfl hh.1 hh.2.2.1 ?_
      refine pv_iconst (pc := 36) (v := 1) dX4_step_36 (by decide) ?_
      refine pv_iadd (pc := 37) dX4_step_37 ?_
      refine pv_putI (pc := 38) dX4_step_38 fl_X4_35_4 (fun q => by cases q) ⟨rfl, rfl, rfl⟩ hh.1 hh.2.2.1 ?_
      refine pv_aload_0 (pc := 41) dX4_step_41 ?_
      refine pv_dup (pc := 42) dX4_step_42 rfl ?_
      refine pv_getI (pc := 43) dX4_step_43 fg_X4_38_4 rfl hh.1 hh.2.2.1 ?_
      refine pv_iconst (pc := 46) (v := 1) dX4_step_46 (by decide) ?_
      refine pv_iadd (pc := 47) dX4_step_47 ?_
      refine pv_putI (pc := 48) dX4_step_48 fl_X4_38_4 (fun q => by cases q) ⟨rfl, rfl, rfl⟩ hh.1 hh.2.2.1 ?_
      refine pv_iconst (pc := 51) (v := 1) dX4_step_51 (by decide) ?_
      refine pv_iret (pc := 52) dX4_step_52 rfl rfl ?_
      have g : XHw h n (st + 1) (sp + 1) sd (s_stepP 0 p q) (s_stepQ 0 p q) (h_stc 0 c) (pv_u (pv_u I h 4 (I h 4 + 1)) h 5 (I h 5 + 1)) L := by
        obtain ⟨y1, y2, y3, y4, y5, y6, y7⟩ := e2
        refine ⟨y1, y2, ?_, ?_, ?_, ?_, fun j hj => ?_⟩
        · rw [pv_u_o _ (by omega), pv_u_o _ (by omega)]; exact y3
        · rw [pv_u_o _ (by omega), pv_u_eq, if_pos rfl, y4]
        · rw [pv_u_eq, if_pos rfl, y5]
        · rw [pv_u_o _ (by omega), pv_u_o _ (by omega)]; exact y6
        · rw [pv_u_o _ (by omega), pv_u_o _ (by omega)]; exact y7 j hj
      have q1 : pv_u I h 4 (I h 4 + 1) h 5 = I h 5 := pv_u_o _ (by omega)
      rw [q1]
      exact ⟨rfl, rfl, (hf.uI _ _ _ (Or.inl rfl)).uI _ _ _ (Or.inl rfl), Or.inl ⟨e1, rfl, g⟩⟩
    · skip
      refine pv_if_ne (pc := 26) (tgt := 31) dX4_step_26 (by decide) (fun q => absurd q (by decide)) (fun _ => ?_)
      refine pv_iconst (pc := 29) (v := 0) dX4_step_29 (by decide) ?_
      refine pv_iret (pc := 30) dX4_step_30 rfl rfl ?_
      exact ⟨rfl, rfl, fH.rf, Or.inr ⟨e1, rfl, rfl, rfl⟩⟩
  · refine pv_mt mgX4_step.2.2.2.2.2 [.ref h, .int 1] rfl (Nat.le_of_ble_eq_true rfl) ?_
    refine pv_iload_1 (pc := 0) dX4_step_0 ?_
    refine pv_iconst (pc := 1) (v := 2) dX4_step_1 (by decide) ?_
    refine pv_icmp_ne (pc := 2) (tgt := 13) dX4_step_2 (by decide) (fun _ => ?_) (fun q => absurd q (by decide))
    refine pv_aload_0 (pc := 13) dX4_step_13 ?_
    refine pv_iload_1 (pc := 14) dX4_step_14 ?_
    refine pv_if_ne (pc := 15) (tgt := 22) dX4_step_15 (by decide) (fun _ => ?_) (fun q => absurd q (by decide))
    refine pv_iconst (pc := 22) (v := (-1)) dX4_step_22 (by decide) ?_
    refine pv_callVq (pc := 23) dX4_step_23 mgX4_change lv_X4_58_4 hh.1 hh.2.2.1 (by omega) (c_X4_change hh hx) rfl rfl (by decide) (fun v t I L Rf hq => ?_)
    obtain ⟨rfl, rfl, hf, ho⟩ := hq
    rw [st_under] at ho
    rw [h_sw_m] at ho
    rcases ho with ⟨e1, rfl, e2⟩ | ⟨e1, rfl, rfl, rfl⟩
    · skip
      refine pv_if_ne (pc := 26) (tgt := 31) dX4_step_26 (by decide) (fun _ => ?_) (fun q => absurd q (by decide))
      refine pv_aload_0 (pc := 31) dX4_step_31 ?_
      refine pv_dup (pc := 32) dX4_step_32 rfl ?_
      refine pv_getI (pc := 33) dX4_step_33 fg_X4_35_4 rfl hh.1 hh.2.2.1 ?_
      refine pv_iconst (pc := 36) (v := 1) dX4_step_36 (by decide) ?_
      refine pv_iadd (pc := 37) dX4_step_37 ?_
      refine pv_putI (pc := 38) dX4_step_38 fl_X4_35_4 (fun q => by cases q) ⟨rfl, rfl, rfl⟩ hh.1 hh.2.2.1 ?_
      refine pv_aload_0 (pc := 41) dX4_step_41 ?_
      refine pv_dup (pc := 42) dX4_step_42 rfl ?_
      refine pv_getI (pc := 43) dX4_step_43 fg_X4_38_4 rfl hh.1 hh.2.2.1 ?_
      refine pv_iconst (pc := 46) (v := 1) dX4_step_46 (by decide) ?_
      refine pv_iadd (pc := 47) dX4_step_47 ?_
      refine pv_putI (pc := 48) dX4_step_48 fl_X4_38_4 (fun q => by cases q) ⟨rfl, rfl, rfl⟩ hh.1 hh.2.2.1 ?_
      refine pv_iconst (pc := 51) (v := 1) dX4_step_51 (by decide) ?_
      refine pv_iret (pc := 52) dX4_step_52 rfl rfl ?_
      have g : XHw h n (st + 1) (sp + 1) sd (s_stepP 1 p q) (s_stepQ 1 p q) (h_stc 1 c) (pv_u (pv_u I h 4 (I h 4 + 1)) h 5 (I h 5 + 1)) L := by
        obtain ⟨y1, y2, y3, y4, y5, y6, y7⟩ := e2
        refine ⟨y1, y2, ?_, ?_, ?_, ?_, fun j hj => ?_⟩
        · rw [pv_u_o _ (by omega), pv_u_o _ (by omega)]; exact y3
        · rw [pv_u_o _ (by omega), pv_u_eq, if_pos rfl, y4]
        · rw [pv_u_eq, if_pos rfl, y5]
        · rw [pv_u_o _ (by omega), pv_u_o _ (by omega)]; exact y6
        · rw [pv_u_o _ (by omega), pv_u_o _ (by omega)]; exact y7 j hj
      have q1 : pv_u I h 4 (I h 4 + 1) h 5 = I h 5 := pv_u_o _ (by omega)
      rw [q1]
      exact ⟨rfl, rfl, (hf.uI _ _ _ (Or.inl rfl)).uI _ _ _ (Or.inl rfl), Or.inl ⟨e1, rfl, g⟩⟩
    · skip
      refine pv_if_ne (pc := 26) (tgt := 31) dX4_step_26 (by decide) (fun q => absurd q (by decide)) (fun _ => ?_)
      refine pv_iconst (pc := 29) (v := 0) dX4_step_29 (by decide) ?_
      refine pv_iret (pc := 30) dX4_step_30 rfl rfl ?_
      exact ⟨rfl, rfl, fH.rf, Or.inr ⟨e1, rfl, rfl, rfl⟩⟩
  · refine pv_mt mgX4_step.2.2.2.2.2 [.ref h, .int 2] rfl (Nat.le_of_ble_eq_true rfl) ?_
    refine pv_iload_1 (pc := 0) dX4_step_0 ?_
    refine pv_iconst (pc := 1) (v := 2) dX4_step_1 (by decide) ?_
    refine pv_icmp_ne (pc := 2) (tgt := 13) dX4_step_2 (by decide) (fun q => absurd q (by decide)) (fun _ => ?_)
    refine pv_aload_0 (pc := 5) dX4_step_5 ?_
    refine pv_iconst (pc := 6) (v := 1) dX4_step_6 (by decide) ?_
    refine pv_callVq (pc := 7) dX4_step_7 mgX4_turn lv_X4_54_4 hh.1 hh.2.2.1 (by omega) (c_X4_turn (m := 1) hh hx (by decide) (by decide) (by omega)) rfl rfl (by decide) (fun v t I L Rf hq => ?_)
    obtain ⟨rfl, rfl, rfl, hf, e2⟩ := hq
    refine pv_goto (pc := 10) (tgt := 31) dX4_step_10 (by decide) ?_
    refine pv_aload_0 (pc := 31) dX4_step_31 ?_
    refine pv_dup (pc := 32) dX4_step_32 rfl ?_
    refine pv_getI (pc := 33) dX4_step_33 fg_X4_35_4 rfl hh.1 hh.2.2.1 ?_
    refine pv_iconst (pc := 36) (v := 1) dX4_step_36 (by decide) ?_
    refine pv_iadd (pc := 37) dX4_step_37 ?_
    refine pv_putI (pc := 38) dX4_step_38 fl_X4_35_4 (fun q => by cases q) ⟨rfl, rfl, rfl⟩ hh.1 hh.2.2.1 ?_
    refine pv_aload_0 (pc := 41) dX4_step_41 ?_
    refine pv_dup (pc := 42) dX4_step_42 rfl ?_
    refine pv_getI (pc := 43) dX4_step_43 fg_X4_38_4 rfl hh.1 hh.2.2.1 ?_
    refine pv_iconst (pc := 46) (v := 1) dX4_step_46 (by decide) ?_
    refine pv_iadd (pc := 47) dX4_step_47 ?_
    refine pv_putI (pc := 48) dX4_step_48 fl_X4_38_4 (fun q => by cases q) ⟨rfl, rfl, rfl⟩ hh.1 hh.2.2.1 ?_
    refine pv_iconst (pc := 51) (v := 1) dX4_step_51 (by decide) ?_
    refine pv_iret (pc := 52) dX4_step_52 rfl rfl ?_
    have g : XHw h n (st + 1) (sp + 1) sd (s_stepP 2 p q) (s_stepQ 2 p q) (h_stc 2 c) (pv_u (pv_u I h 4 (I h 4 + 1)) h 5 (I h 5 + 1)) L := by
      obtain ⟨y1, y2, y3, y4, y5, y6, y7⟩ := e2
      refine ⟨y1, y2, ?_, ?_, ?_, ?_, fun j hj => ?_⟩
      · rw [pv_u_o _ (by omega), pv_u_o _ (by omega)]; exact y3
      · rw [pv_u_o _ (by omega), pv_u_eq, if_pos rfl, y4]
      · rw [pv_u_eq, if_pos rfl, y5]
      · rw [pv_u_o _ (by omega), pv_u_o _ (by omega)]; exact y6
      · rw [pv_u_o _ (by omega), pv_u_o _ (by omega)]; exact y7 j hj
    have q1 : pv_u I h 4 (I h 4 + 1) h 5 = I h 5 := pv_u_o _ (by omega)
    rw [q1]
    exact ⟨rfl, rfl, (hf.uI _ _ _ (Or.inl rfl)).uI _ _ _ (Or.inl rfl), Or.inl ⟨rfl, rfl, g⟩⟩

theorem x_us (p : Int64) : (if p < 0 then (0 : Int32) else 2) = 0 ∨ (if p < 0 then (0 : Int32) else 2) = 1 ∨ (if p < 0 then (0 : Int32) else 2) = 2 := by
  split
  · exact Or.inl rfl
  · exact Or.inr (Or.inr rfl)
theorem w_frees_e {m k : Nat} {J : pv_I} {K : pv_L} (h : ¬ K 0 0 = 0) : w_frees (m + 1) k J K = w_frees m (k + 1) (w_stp J K (if K 0 0 < 0 then 0 else 2)).2.1 (w_stp J K (if K 0 0 < 0 then 0 else 2)).2.2 := by rw [w_frees, if_neg h]
/-- undoing there is always room -/
theorem x_fr {p q : Int64} (hN : s_isN p q) : s_room (s_stepP (if p < 0 then 0 else 2) p q) (s_stepQ (if p < 0 then 0 else 2) p q) = true := by
  by_cases h : p < 0
  · rw [if_pos h]
    obtain ⟨n1, n2, n3, n4, n5⟩ := hN
    rw [l64_lt, l64_0] at h
    show s_room (p + q) q = true
    simp only [s_room, Bool.and_eq_true, decide_eq_true_eq, l64_le, (show (1000000000000 : Int64).toInt = 1000000000000 from by decide), (show ((-1000000000000) : Int64).toInt = (-1000000000000) from by decide)]
    have e : (p + q).toInt = p.toInt + q.toInt := l64_add (by omega) (by omega)
    omega
  · rw [if_neg h]; exact room_turn hN
theorem x_stp {J : pv_I} {K : pv_L} {t : pv_T} {I I1 : pv_I} {L L1 : pv_L} {Rf : pv_R} {s : Int32} (hX : RX J K t I L Rf) (hr : s_room (s_stepP s (K 0 0) (K 0 1)) (s_stepQ s (K 0 0) (K 0 1)) = true) (hf : fH 21 I L I1 L1) (e2 : XHw 21 (J 0 0) (J 0 1 + 1) (J 0 2 + 1) (J 0 3) (s_stepP s (K 0 0) (K 0 1)) (s_stepQ s (K 0 0) (K 0 1)) (h_stc s (J 4)) I1 L1) : RX (w_stp J K s).2.1 (w_stp J K s).2.2 t I1 L1 Rf := by
  rw [w_stp_t hr]; exact hX.dn hf e2
set_option maxRecDepth 100000 in
set_option maxHeartbeats 4000000 in
theorem x_frees {G : pv_G} {d : Nat} {n : Int32} {t : pv_T} {I0 : pv_I} {L0 : pv_L} {Rf : pv_R} {r : SR} (hT : sh_ok t) (hR : rf_ok Rf) (h0 : 0 ≤ n.toInt) (hn : n.toInt ≤ 40) (hd : 10 ≤ d) : ∀ (m k : Nat) (J : pv_I) (K : pv_L) (I : pv_I) (L : pv_L), WF J K → RX J K t I L Rf → kM I0 L0 I L → k + m = n.toNatClampNeg → w_frees m k J K = r →
    pv_V G mX11_frees d 0 0 (qX r I0 L0) 0 0 19 [.ref 16, .int n, .int (Int32.ofNat k)] [] t I L Rf := by
  intro m
  induction m with
  | zero =>
    intro k J K I L hW hX hk hkm hr
    have hnl := i_lit n
    have g7 : L 21 1 = K 0 0 := hX.2.2.1.1
    refine pv_iload_2 (pc := 19) dX11_frees_19 ?_
    refine pv_iload_1 (pc := 20) dX11_frees_20 ?_
    refine pv_icmp_ge (pc := 21) (tgt := 62) dX11_frees_21 (by decide) (fun h21 => ?_) (fun h21 => absurd h21 (by rw [i_lt, i_of (by omega)]; omega))
    refine pv_iload_2 (pc := 62) dX11_frees_62 ?_
    refine pv_iret (pc := 63) dX11_frees_63 rfl rfl ?_
    exact ⟨congrArg (fun z => some z.1) hr, by rw [← hr]; exact hX, hk⟩
  | succ m ih =>
    intro k J K I L hW hX hk hkm hr
    have hnl := i_lit n
    have g7 : L 21 1 = K 0 0 := hX.2.2.1.1
    refine pv_iload_2 (pc := 19) dX11_frees_19 ?_
    refine pv_iload_1 (pc := 20) dX11_frees_20 ?_
    refine pv_icmp_ge (pc := 21) (tgt := 62) dX11_frees_21 (by decide) (fun h21 => absurd h21 (not_not_intro (by rw [i_lt, i_of (by omega)]; omega))) (fun h21 => ?_)
    refine pv_aload_0 (pc := 24) dX11_frees_24 ?_
    refine pv_getR (pc := 25) dX11_frees_25 fg_X11_31_11 rfl (by decide) (sx_16 hT) (rx_16_4 hR) ?_
    refine pv_getL (pc := 28) dX11_frees_28 fg_X11_186_4 (by decide) (sx_21 hT) ?_
    refine pv_lconst (pc := 31) (v := 0) dX11_frees_31 (by decide) ?_
    refine pv_lcmp_eq (pc := 32) (tgt := 62) dX11_frees_32 dX11_frees_33 (by decide) (fun h32 => ?_) (fun h32 => ?_)
    · refine pv_iload_2 (pc := 62) dX11_frees_62 ?_
      refine pv_iret (pc := 63) dX11_frees_63 rfl rfl ?_
      rw [w_frees, if_pos (by rw [← g7]; exact (by first | exact h32 | exact Classical.not_not.mp h32))] at hr
      exact ⟨congrArg (fun z => some z.1) hr, by rw [← hr]; exact hX, hk⟩
    · refine pv_aload_0 (pc := 36) dX11_frees_36 ?_
      refine pv_getR (pc := 37) dX11_frees_37 fg_X11_31_11 rfl (by decide) (sx_16 hT) (rx_16_4 hR) ?_
      refine pv_aload_0 (pc := 40) dX11_frees_40 ?_
      refine pv_getR (pc := 41) dX11_frees_41 fg_X11_31_11 rfl (by decide) (sx_16 hT) (rx_16_4 hR) ?_
      refine pv_getL (pc := 44) dX11_frees_44 fg_X11_186_4 (by decide) (sx_21 hT) ?_
      refine pv_callS1 (pc := 47) dX11_frees_47 mgX11_undoStep ls_X11_315 (by omega) (c_X11_undoStep ) rfl rfl (Nat.le_of_ble_eq_true rfl) ?_
      rw [g7]
      refine pv_callVq (pc := 50) dX11_frees_50 mgX4_step lv_X11_319_4 (by decide) (sx_21 hT) (by omega) (c_X4_step (x_us _) (hl_21 hX.1 hX.2.1) hX.2.2.1 (by omega)) rfl rfl (by decide) (fun v t I L Rf hq => ?_)
      obtain ⟨rfl, rfl, hf, ho⟩ := hq
      rcases ho with ⟨e1, rfl, e2⟩ | ⟨e1, rfl, rfl, rfl⟩
      · skip
        refine pv_if_eq (pc := 53) (tgt := 62) dX11_frees_53 (by decide) (fun q => absurd q (by decide)) (fun _ => ?_)
        refine pv_iinc_2 (pc := 56) (v := _ + 1) dX11_frees_56 rfl (by decide) rfl ?_
        refine pv_goto (pc := 59) (tgt := 19) dX11_frees_59 (by decide) ?_
        rw [i_inc]
        have hr1 := y_sok_r (x_us (K 0 0)) hW.2.2.1
        rw [e1] at hr1
        refine ih (k + 1) _ _ _ _ (hW.stp (x_us (K 0 0))) (x_stp hX hr1.symm hf e2) (hk.tr (hf.kM (by decide))) (by omega) ?_
        rw [← hr]
        exact (w_frees_e (by rw [← g7]; exact h32)).symm
      · skip
        have hr1 := y_sok_r (x_us (K 0 0)) hW.2.2.1
        rw [e1, x_fr hW.2.2.1] at hr1
        exact absurd hr1 (by decide)

set_option maxRecDepth 100000 in
set_option maxHeartbeats 4000000 in
theorem c_X11_frees {G : pv_G} {d : Nat} {J : pv_I} {K : pv_L} {n : Int32} {t : pv_T} {I : pv_I} {L : pv_L} {Rf : pv_R} (hW : WF J K) (hX : RX J K t I L Rf)  (hd : 60 ≤ d) : pv_Mt G mX11_frees d 0 0 [.ref 16, .int n] t I L Rf (qX (S_frees J K n) I L) := by
  refine pv_mt mgX11_frees.2.2.2.2.2 [.ref 16, .int n, .retAddr 0] rfl (Nat.le_of_ble_eq_true rfl) ?_
  have hT := hX.1
  have hR := hX.2.1
  obtain ⟨-, -, ⟨xp, xq, xn, xst, xsp, xsd, xc⟩, xf, xs, xb, xi⟩ := id hX
  refine pv_iload_1 (pc := 0) dX11_frees_0 ?_
  refine pv_if_lt (pc := 1) (tgt := 10) dX11_frees_1 (by decide) (fun h1 => ?_) (fun h1 => ?_)
  · refine pv_aload_0 (pc := 10) dX11_frees_10 ?_
    refine pv_bipush (pc := 11) (v := 6) dX11_frees_11 (by decide) ?_
    refine pv_callV1 (pc := 13) dX11_frees_13 mgX11_refuse lv_X11_70_11 (by decide) (sx_16 hT) (by omega) (c_X11_refuse (k := 6) hT hR (by decide) (by unfold vp_in; decide)) rfl rfl (by decide) ?_
    refine pv_iret (pc := 16) dX11_frees_16 rfl rfl ?_
    first
      | (have f1 := h1; refine qX.ref hX k_l6 ?_; unfold S_frees; rw [if_pos (Or.inl f1)]; done)
      | (have f1 := h7; refine qX.ref hX k_l6 ?_; unfold S_frees; rw [if_pos (Or.inr f1)]; done)
  · refine pv_iload_1 (pc := 4) dX11_frees_4 ?_
    refine pv_bipush (pc := 5) (v := 40) dX11_frees_5 (by decide) ?_
    refine pv_icmp_le (pc := 7) (tgt := 17) dX11_frees_7 (by decide) (fun h7 => ?_) (fun h7 => ?_)
    · refine pv_iconst (pc := 17) (v := 0) dX11_frees_17 (by decide) ?_
      refine pv_istore_2 (pc := 18) dX11_frees_18 (by decide) rfl ?_
      have hnl := i_lit n
      have q1 := h1
      have q7 := h7
      simp only [i_lt, (show (0 : Int32).toInt = 0 from by decide), (show (40 : Int32).toInt = 40 from by decide)] at q1 q7
      exact x_frees hT hR (by omega) (by omega) (by omega) n.toNatClampNeg 0 J K I L hW hX kM.rf (by omega) (by unfold S_frees; rw [if_neg (fun r => r.elim h1 h7)])
    · refine pv_aload_0 (pc := 10) dX11_frees_10 ?_
      refine pv_bipush (pc := 11) (v := 6) dX11_frees_11 (by decide) ?_
      refine pv_callV1 (pc := 13) dX11_frees_13 mgX11_refuse lv_X11_70_11 (by decide) (sx_16 hT) (by omega) (c_X11_refuse (k := 6) hT hR (by decide) (by unfold vp_in; decide)) rfl rfl (by decide) ?_
      refine pv_iret (pc := 16) dX11_frees_16 rfl rfl ?_
      first
        | (have f1 := h1; refine qX.ref hX k_l6 ?_; unfold S_frees; rw [if_pos (Or.inl f1)]; done)
        | (have f1 := h7; refine qX.ref hX k_l6 ?_; unfold S_frees; rw [if_pos (Or.inr f1)]; done)

set_option maxRecDepth 100000 in
set_option maxHeartbeats 4000000 in
theorem c_X4_draw {G : pv_G} {d : Nat} {h : Nat} {t : pv_T} {I : pv_I} {L : pv_L} {Rf : pv_R} (hh : hl_ok t Rf h) : pv_Mt G mX4_draw d 0 0 [.ref h, .int 3] t I L Rf (pv_is (some (.int (w_dr (w_sd (I h 6))))) t (pv_u I h 6 (w_sd (I h 6))) L Rf) := by
  refine pv_mt mgX4_draw.2.2.2.2.2 [.ref h, .int 3] rfl (Nat.le_of_ble_eq_true rfl) ?_
  have q1 : ∀ v, pv_u I h 6 v h 6 = v := fun v => by rw [pv_u_eq, if_pos rfl]
  refine pv_aload_0 (pc := 0) dX4_draw_0 ?_
  refine pv_aload_0 (pc := 1) dX4_draw_1 ?_
  refine pv_getI (pc := 2) dX4_draw_2 fg_X4_19_4 rfl hh.1 hh.2.2.1 ?_
  refine pv_ldc (pc := 5) dX4_draw_5 k_X4_83 ?_
  refine pv_imul (pc := 7) dX4_draw_7 ?_
  refine pv_sipush (pc := 8) (v := 12345) dX4_draw_8 (by decide) ?_
  refine pv_iadd (pc := 11) dX4_draw_11 ?_
  refine pv_putI (pc := 12) dX4_draw_12 fl_X4_19_4 (fun q => by cases q) ⟨rfl, rfl, rfl⟩ hh.1 hh.2.2.1 ?_
  refine pv_iload_1 (pc := 15) dX4_draw_15 ?_
  refine pv_if_le (pc := 16) (tgt := 31) dX4_draw_16 (by decide) (fun q => absurd q (by decide)) (fun _ => ?_)
  refine pv_aload_0 (pc := 19) dX4_draw_19 ?_
  refine pv_getI (pc := 20) dX4_draw_20 fg_X4_19_4 rfl hh.1 hh.2.2.1 ?_
  refine pv_bipush (pc := 23) (v := 16) dX4_draw_23 (by decide) ?_
  refine pv_iushr (pc := 25) dX4_draw_25 rfl ?_
  refine pv_iload_1 (pc := 26) dX4_draw_26 ?_
  refine pv_irem (pc := 27) dX4_draw_27 (by decide) ?_
  refine pv_goto (pc := 28) (tgt := 32) dX4_draw_28 (by decide) ?_
  refine pv_iret (pc := 32) dX4_draw_32 rfl rfl ?_
  rw [q1]; exact ⟨rfl, rfl, rfl, rfl, rfl⟩

set_option maxRecDepth 100000 in
set_option maxHeartbeats 4000000 in
theorem x_draws {G : pv_G} {d : Nat} {n : Int32} {t : pv_T} {I0 : pv_I} {L0 : pv_L} {Rf : pv_R} {r : SR} (hT : sh_ok t) (hR : rf_ok Rf) (h0 : 0 ≤ n.toInt) (hn : n.toInt ≤ 40) (hd : 10 ≤ d) : ∀ (m k : Nat) (J : pv_I) (K : pv_L) (I : pv_I) (L : pv_L), WF J K → RX J K t I L Rf → kM I0 L0 I L → k + m = n.toNatClampNeg → w_draws m k J K = r →
    pv_V G mX11_draws d 0 0 (qX r I0 L0) 0 0 20 [.ref 16, .int n, .int (Int32.ofNat k)] [] t I L Rf := by
  intro m
  induction m with
  | zero =>
    intro k J K I L hW hX hk hkm hr
    have hnl := i_lit n
    have g7 : I 21 6 = J 0 3 := hX.2.2.1.2.2.2.2.2.1
    refine pv_iload_2 (pc := 20) dX11_draws_20 ?_
    refine pv_iload_1 (pc := 21) dX11_draws_21 ?_
    refine pv_icmp_ge (pc := 22) (tgt := 49) dX11_draws_22 (by decide) (fun h22 => ?_) (fun h22 => absurd h22 (by rw [i_lt, i_of (by omega)]; omega))
    refine pv_iload_2 (pc := 49) dX11_draws_49 ?_
    refine pv_iret (pc := 50) dX11_draws_50 rfl rfl ?_
    exact ⟨congrArg (fun z => some z.1) hr, by rw [← hr]; exact hX, hk⟩
  | succ m ih =>
    intro k J K I L hW hX hk hkm hr
    have hnl := i_lit n
    have g7 : I 21 6 = J 0 3 := hX.2.2.1.2.2.2.2.2.1
    refine pv_iload_2 (pc := 20) dX11_draws_20 ?_
    refine pv_iload_1 (pc := 21) dX11_draws_21 ?_
    refine pv_icmp_ge (pc := 22) (tgt := 49) dX11_draws_22 (by decide) (fun h22 => absurd h22 (not_not_intro (by rw [i_lt, i_of (by omega)]; omega))) (fun h22 => ?_)
    refine pv_aload_0 (pc := 25) dX11_draws_25 ?_
    refine pv_getR (pc := 26) dX11_draws_26 fg_X11_31_11 rfl (by decide) (sx_16 hT) (rx_16_4 hR) ?_
    refine pv_aload_0 (pc := 29) dX11_draws_29 ?_
    refine pv_getR (pc := 30) dX11_draws_30 fg_X11_31_11 rfl (by decide) (sx_16 hT) (rx_16_4 hR) ?_
    refine pv_iconst (pc := 33) (v := 3) dX11_draws_33 (by decide) ?_
    refine pv_callV1 (pc := 34) dX11_draws_34 mgX4_draw lv_X11_322_4 (by decide) (sx_21 hT) (by omega) (c_X4_draw (hl_21 hX.1 hX.2.1)) rfl rfl (Nat.le_of_ble_eq_true rfl) ?_
    rw [g7]
    have hXs : RX (pv_u J 0 3 (w_sd (J 0 3))) K t (pv_u I 21 6 (w_sd (J 0 3))) L Rf := by
      obtain ⟨y1, y2, y3, y4, y5, y6, y7⟩ := hX.2.2.1
      exact hX.hall (fun a j h _ => by rw [pv_u_o _ (by omega)]) (fun _ _ _ => rfl) (fun a j _ h => by show pv_u J 0 3 _ a j = J a j; rw [pv_u_o _ (by omega)]) (fun _ _ _ => rfl) ⟨y1, y2, y3, y4, y5, rfl, y7⟩
    have hks : kM I L (pv_u I 21 6 (w_sd (J 0 3))) L := kM.rf.uI 21 6 _ (by decide)
    refine pv_callVq (pc := 37) dX11_draws_37 mgX4_step lv_X11_319_4 (by decide) (sx_21 hT) (by omega) (c_X4_step (w_dr_c _) (hl_21 hXs.1 hXs.2.1) hXs.2.2.1 (by omega)) rfl rfl (by decide) (fun v t I L Rf hq => ?_)
    obtain ⟨rfl, rfl, hf, ho⟩ := hq
    have hr1 := y_sok_r (p := K 0 0) (q := K 0 1) (w_dr_c (w_sd (J 0 3))) hW.2.2.1
    rcases ho with ⟨e1, rfl, e2⟩ | ⟨e1, rfl, rfl, rfl⟩
    · skip
      refine pv_if_eq (pc := 40) (tgt := 49) dX11_draws_40 (by decide) (fun q => absurd q (by decide)) (fun _ => ?_)
      refine pv_iinc_2 (pc := 43) (v := _ + 1) dX11_draws_43 rfl (by decide) rfl ?_
      refine pv_goto (pc := 46) (tgt := 20) dX11_draws_46 (by decide) ?_
      rw [i_inc]
      rw [e1] at hr1
      refine ih (k + 1) _ _ _ _ ((hW.f3 _).stp (w_dr_c _)) (x_stp hXs hr1.symm hf e2) ((hk.tr hks).tr (hf.kM (by decide))) (by omega) ?_
      rw [← hr, w_draws, w_stp_t hr1.symm, if_pos rfl]
    · skip
      refine pv_if_eq (pc := 40) (tgt := 49) dX11_draws_40 (by decide) (fun _ => ?_) (fun q => absurd q (by decide))
      refine pv_iload_2 (pc := 49) dX11_draws_49 ?_
      refine pv_iret (pc := 50) dX11_draws_50 rfl rfl ?_
      rw [e1] at hr1
      rw [w_draws, w_stp_f hr1.symm, if_neg (show ¬ (false = true) by decide)] at hr
      exact ⟨congrArg (fun z => some z.1) hr, by rw [← hr]; exact hXs, hk.tr hks⟩

set_option maxRecDepth 100000 in
set_option maxHeartbeats 4000000 in
theorem c_X11_draws {G : pv_G} {d : Nat} {J : pv_I} {K : pv_L} {n : Int32} {t : pv_T} {I : pv_I} {L : pv_L} {Rf : pv_R} (hW : WF J K) (hX : RX J K t I L Rf)  (hd : 60 ≤ d) : pv_Mt G mX11_draws d 0 0 [.ref 16, .int n] t I L Rf (qX (S_draws J K n) I L) := by
  refine pv_mt mgX11_draws.2.2.2.2.2 [.ref 16, .int n, .retAddr 0] rfl (Nat.le_of_ble_eq_true rfl) ?_
  have hT := hX.1
  have hR := hX.2.1
  obtain ⟨-, -, ⟨xp, xq, xn, xst, xsp, xsd, xc⟩, xf, xs, xb, xi⟩ := id hX
  refine pv_iload_1 (pc := 0) dX11_draws_0 ?_
  refine pv_iconst (pc := 1) (v := 1) dX11_draws_1 (by decide) ?_
  refine pv_icmp_lt (pc := 2) (tgt := 11) dX11_draws_2 (by decide) (fun h2 => ?_) (fun h2 => ?_)
  · refine pv_aload_0 (pc := 11) dX11_draws_11 ?_
    refine pv_bipush (pc := 12) (v := 6) dX11_draws_12 (by decide) ?_
    refine pv_callV1 (pc := 14) dX11_draws_14 mgX11_refuse lv_X11_70_11 (by decide) (sx_16 hT) (by omega) (c_X11_refuse (k := 6) hT hR (by decide) (by unfold vp_in; decide)) rfl rfl (by decide) ?_
    refine pv_iret (pc := 17) dX11_draws_17 rfl rfl ?_
    first
      | (have f1 := h2; refine qX.ref hX k_l6 ?_; unfold S_draws; rw [if_pos (Or.inl f1)]; done)
      | (have f1 := h8; refine qX.ref hX k_l6 ?_; unfold S_draws; rw [if_pos (Or.inr f1)]; done)
  · refine pv_iload_1 (pc := 5) dX11_draws_5 ?_
    refine pv_bipush (pc := 6) (v := 40) dX11_draws_6 (by decide) ?_
    refine pv_icmp_le (pc := 8) (tgt := 18) dX11_draws_8 (by decide) (fun h8 => ?_) (fun h8 => ?_)
    · refine pv_iconst (pc := 18) (v := 0) dX11_draws_18 (by decide) ?_
      refine pv_istore_2 (pc := 19) dX11_draws_19 (by decide) rfl ?_
      have hnl := i_lit n
      have q1 := h2
      have q7 := h8
      simp only [i_lt, (show (1 : Int32).toInt = 1 from by decide), (show (40 : Int32).toInt = 40 from by decide)] at q1 q7
      exact x_draws hT hR (by omega) (by omega) (by omega) n.toNatClampNeg 0 J K I L hW hX kM.rf (by omega) (by unfold S_draws; rw [if_neg (fun r => r.elim h2 h8)])
    · refine pv_aload_0 (pc := 11) dX11_draws_11 ?_
      refine pv_bipush (pc := 12) (v := 6) dX11_draws_12 (by decide) ?_
      refine pv_callV1 (pc := 14) dX11_draws_14 mgX11_refuse lv_X11_70_11 (by decide) (sx_16 hT) (by omega) (c_X11_refuse (k := 6) hT hR (by decide) (by unfold vp_in; decide)) rfl rfl (by decide) ?_
      refine pv_iret (pc := 17) dX11_draws_17 rfl rfl ?_
      first
        | (have f1 := h2; refine qX.ref hX k_l6 ?_; unfold S_draws; rw [if_pos (Or.inl f1)]; done)
        | (have f1 := h8; refine qX.ref hX k_l6 ?_; unfold S_draws; rw [if_pos (Or.inr f1)]; done)

