/-! the class: seed closed trace status start row set show -/
theorem l_even (x : Int64) : (x &&& 1 = 0) ↔ (x % 2 = 0) := by
  have h1 : (x &&& 1).toInt = x.toInt % 2 ^ 1 := Jvm.Kit.i64_mask x 1 (by decide) (by decide)
  have h2 : (x % 2).toInt = x.toInt.tmod 2 := by rw [Int64.toInt_mod]; rfl
  rw [← Int64.toInt_inj, ← Int64.toInt_inj, h1, h2, l64_0]
  constructor
  · intro q; exact Int.tmod_eq_zero_of_dvd (Int.dvd_of_emod_eq_zero (by omega))
  · intro q; have := Int.emod_eq_zero_of_dvd (Int.dvd_of_tmod_eq_zero q); omega
theorem kM.h {I I1 : pv_I} {L L1 : pv_L} (hI : ∀ a j, a ≠ 21 → a ≠ 22 → I1 a j = I a j) (hL : ∀ a j, a ≠ 21 → L1 a j = L a j) : kM I L I1 L1 := kM.of (fun a j h1 h2 => hI a j (by omega) (by omega)) (fun a j h1 h2 => hL a j (by omega))
theorem kM.s {s : Nat} (hs : s < 8) {I I1 : pv_I} {L L1 : pv_L} (hI : ∀ a j, a ≠ 45 + 2 * s → I1 a j = I a j) (hL : ∀ a j, a ≠ 46 + 2 * s → L1 a j = L a j) : kM I L I1 L1 := kM.of (fun a j h1 h2 => hI a j (by omega)) (fun a j h1 h2 => hL a j (by omega))

set_option maxRecDepth 100000 in
set_option maxHeartbeats 4000000 in
theorem c_X11_seed {G : pv_G} {d : Nat} {J : pv_I} {K : pv_L} {v : Int32} {t : pv_T} {I : pv_I} {L : pv_L} {Rf : pv_R} (hW : WF J K) (hX : RX J K t I L Rf)  (hd : 60 ≤ d) : pv_Mt G mX11_seed d 0 0 [.ref 16, .int v] t I L Rf (qX (S_seed J K v) I L) := by
  refine pv_mt mgX11_seed.2.2.2.2.2 [.ref 16, .int v, .retAddr 0] rfl (Nat.le_of_ble_eq_true rfl) ?_
  have hT := hX.1
  have hR := hX.2.1
  obtain ⟨-, -, ⟨xp, xq, xn, xst, xsp, xsd, xc⟩, xf, xs, xb, xi⟩ := id hX
  refine pv_aload_0 (pc := 0) dX11_seed_0 ?_
  refine pv_getR (pc := 1) dX11_seed_1 fg_X11_31_11 rfl (by decide) (sx_16 hT) (rx_16_4 hR) ?_
  refine pv_getI (pc := 4) dX11_seed_4 fg_X11_325_4 rfl (by decide) (sx_21 hT) ?_
  refine pv_istore_2 (pc := 7) dX11_seed_7 (by decide) rfl ?_
  refine pv_aload_0 (pc := 8) dX11_seed_8 ?_
  refine pv_getR (pc := 9) dX11_seed_9 fg_X11_31_11 rfl (by decide) (sx_16 hT) (rx_16_4 hR) ?_
  refine pv_iload_1 (pc := 12) dX11_seed_12 ?_
  refine pv_putI (pc := 13) dX11_seed_13 fl_X11_325_4 (fun q => by cases q) ⟨rfl, rfl, rfl⟩ (by decide) (sx_21 hT) ?_
  refine pv_iload_2 (pc := 16) dX11_seed_16 ?_
  refine pv_iret (pc := 17) dX11_seed_17 rfl rfl ?_
  have hI : ∀ a j, a ≠ 21 → a ≠ 22 → pv_u I 21 6 v a j = I a j := fun a j h _ => by rw [pv_u_o _ (by omega)]
  exact ⟨by unfold S_seed; rw [xsd], hX.hall hI (fun _ _ _ => rfl) (fun a j _ h => by show pv_u J 0 3 v a j = J a j; rw [pv_u_o _ (by omega)]) (fun _ _ _ => rfl) ⟨xp, xq, xn, xst, xsp, rfl, xc⟩, kM.h hI (fun _ _ _ => rfl)⟩

set_option maxRecDepth 100000 in
set_option maxHeartbeats 4000000 in
theorem c_X11_closed {G : pv_G} {d : Nat} {J : pv_I} {K : pv_L} {o : Bool} {t : pv_T} {I : pv_I} {L : pv_L} {Rf : pv_R} (hW : WF J K) (hX : RX J K t I L Rf)  (hd : 60 ≤ d) : pv_Mt G mX11_closed d 0 0 [.ref 16, .int (pv_b o)] t I L Rf (qX (S_closed J K o) I L) := by
  refine pv_mt mgX11_closed.2.2.2.2.2 [.ref 16, .int (pv_b o)] rfl (Nat.le_of_ble_eq_true rfl) ?_
  have hT := hX.1
  have hR := hX.2.1
  obtain ⟨-, -, ⟨xp, xq, xn, xst, xsp, xsd, xc⟩, xf, xs, xb, xi⟩ := id hX
  cases o with
  | false =>
    refine pv_iload_1 (pc := 0) dX11_closed_0 ?_
    refine pv_if_eq (pc := 1) (tgt := 14) dX11_closed_1 (by decide) (fun _ => ?_) (fun q => absurd q (by decide))
    refine pv_aload_0 (pc := 14) dX11_closed_14 ?_
    refine pv_getR (pc := 15) dX11_closed_15 fg_X11_31_11 rfl (by decide) (sx_16 hT) (rx_16_4 hR) ?_
    refine pv_getL (pc := 18) dX11_closed_18 fg_X11_186_4 (by decide) (sx_21 hT) ?_
    refine pv_lconst (pc := 21) (v := 1) dX11_closed_21 (by decide) ?_
    refine pv_land (pc := 22) dX11_closed_22 ?_
    refine pv_lconst (pc := 23) (v := 0) dX11_closed_23 (by decide) ?_
    refine pv_lcmp_ne (pc := 24) (tgt := 32) dX11_closed_24 dX11_closed_25 (by decide) (fun h24 => ?_) (fun h24 => ?_)
    · refine pv_iconst (pc := 32) (v := 1) dX11_closed_32 (by decide) ?_
      refine pv_iret (pc := 33) dX11_closed_33 rfl rfl ?_
      refine qX.same hX ?_
      unfold S_closed
      simp only [if_true, if_false, Bool.false_eq_true]
      first
        | (have f1 := h24; rw [xp, l_even] at f1; rw [if_pos f1]; done)
        | (have f1 := h24; rw [xp, l_even] at f1; rw [if_neg f1]; done)
    · refine pv_iconst (pc := 28) (v := 2) dX11_closed_28 (by decide) ?_
      refine pv_goto (pc := 29) (tgt := 33) dX11_closed_29 (by decide) ?_
      refine pv_iret (pc := 33) dX11_closed_33 rfl rfl ?_
      refine qX.same hX ?_
      unfold S_closed
      simp only [if_true, if_false, Bool.false_eq_true]
      first
        | (have f1 := h24; rw [xp, l_even] at f1; rw [if_pos f1]; done)
        | (have f1 := h24; rw [xp, l_even] at f1; rw [if_neg f1]; done)
  | true =>
    refine pv_iload_1 (pc := 0) dX11_closed_0 ?_
    refine pv_if_eq (pc := 1) (tgt := 14) dX11_closed_1 (by decide) (fun q => absurd q (by decide)) (fun _ => ?_)
    refine pv_aload_0 (pc := 4) dX11_closed_4 ?_
    refine pv_getR (pc := 5) dX11_closed_5 fg_X11_31_11 rfl (by decide) (sx_16 hT) (rx_16_4 hR) ?_
    refine pv_getL (pc := 8) dX11_closed_8 fg_X11_190_4 (by decide) (sx_21 hT) ?_
    refine pv_goto (pc := 11) (tgt := 21) dX11_closed_11 (by decide) ?_
    refine pv_lconst (pc := 21) (v := 1) dX11_closed_21 (by decide) ?_
    refine pv_land (pc := 22) dX11_closed_22 ?_
    refine pv_lconst (pc := 23) (v := 0) dX11_closed_23 (by decide) ?_
    refine pv_lcmp_ne (pc := 24) (tgt := 32) dX11_closed_24 dX11_closed_25 (by decide) (fun h24 => ?_) (fun h24 => ?_)
    · refine pv_iconst (pc := 32) (v := 1) dX11_closed_32 (by decide) ?_
      refine pv_iret (pc := 33) dX11_closed_33 rfl rfl ?_
      refine qX.same hX ?_
      unfold S_closed
      simp only [if_true, if_false, Bool.false_eq_true]
      first
        | (have f1 := h24; rw [xq, l_even] at f1; rw [if_pos f1]; done)
        | (have f1 := h24; rw [xq, l_even] at f1; rw [if_neg f1]; done)
    · refine pv_iconst (pc := 28) (v := 2) dX11_closed_28 (by decide) ?_
      refine pv_goto (pc := 29) (tgt := 33) dX11_closed_29 (by decide) ?_
      refine pv_iret (pc := 33) dX11_closed_33 rfl rfl ?_
      refine qX.same hX ?_
      unfold S_closed
      simp only [if_true, if_false, Bool.false_eq_true]
      first
        | (have f1 := h24; rw [xq, l_even] at f1; rw [if_pos f1]; done)
        | (have f1 := h24; rw [xq, l_even] at f1; rw [if_neg f1]; done)

theorem x_20 {i : Int32} (h1 : ¬ i < 0) (h2 : i < 20) : vp_in (1 + i) 21 ∧ (1 + i).toNatClampNeg = 1 + i.toNatClampNeg ∧ i.toNatClampNeg < 20 := by
  have hl := i_lit i
  have hl1 := i_lit (1 + i)
  rw [i_lt, Int32.toInt_zero] at h1
  rw [i_lt, show (20 : Int32).toInt = 20 by decide] at h2
  have e : (1 + i).toInt = 1 + i.toInt := by
    rw [Jvm.Kit.i32_add (by rw [show (1 : Int32).toInt = 1 by decide]; omega) (by rw [show (1 : Int32).toInt = 1 by decide]; omega), show (1 : Int32).toInt = 1 by decide]
  exact ⟨pv_in_of (by omega) (by omega), by omega, by omega⟩
set_option maxRecDepth 100000 in
set_option maxHeartbeats 4000000 in
theorem c_X11_trace {G : pv_G} {d : Nat} {J : pv_I} {K : pv_L} {i : Int32} {t : pv_T} {I : pv_I} {L : pv_L} {Rf : pv_R} (hW : WF J K) (hX : RX J K t I L Rf)  (hd : 60 ≤ d) : pv_Mt G mX11_trace d 0 0 [.ref 16, .int i] t I L Rf (qX (S_trace J K i) I L) := by
  refine pv_mt mgX11_trace.2.2.2.2.2 [.ref 16, .int i] rfl (Nat.le_of_ble_eq_true rfl) ?_
  have hT := hX.1
  have hR := hX.2.1
  obtain ⟨-, -, ⟨xp, xq, xn, xst, xsp, xsd, xc⟩, xf, xs, xb, xi⟩ := id hX
  refine pv_iload_1 (pc := 0) dX11_trace_0 ?_
  refine pv_if_lt (pc := 1) (tgt := 31) dX11_trace_1 (by decide) (fun h1 => ?_) (fun h1 => ?_)
  · refine pv_iconst (pc := 31) (v := (-1)) dX11_trace_31 (by decide) ?_
    refine pv_iret (pc := 32) dX11_trace_32 rfl rfl ?_
    refine qX.same hX ?_
    unfold S_trace
    first
      | (have f1 := h1; rw [if_neg (fun q => by have g := q.1; rw [i_le] at g; rw [i_lt] at f1; omega)]; done)
      | (have f1 := h11; rw [xb.2.2.2.1] at f1; rw [if_neg (fun q => f1 q.2.2)]; done)
      | (have f1 := h17; rw [if_neg (fun q => f1 q.2.1)]; done)
      | (have f1 := h1; have f2 := h11; have f3 : i < 20 := (by first | exact h17 | exact Classical.not_not.mp h17)
         rw [xb.2.2.2.1] at f2
         have f4 : i < J 0 5 := (by first | exact f2 | exact Classical.not_not.mp f2)
         obtain ⟨g1, g2, g3⟩ := x_20 f1 f3
         have hl := i_lit i
         have g4 : (i.toNatClampNeg : Int) < (J 0 5).toInt := (by rw [i_lt] at f4; rw [i_lt, Int32.toInt_zero] at f1; omega)
         rw [if_pos ⟨by rw [i_lt] at f1; rw [i_le]; omega, f3, f4⟩, g2, xb.2.2.2.2 _ g3 g4])
  · refine pv_iload_1 (pc := 4) dX11_trace_4 ?_
    refine pv_aload_0 (pc := 5) dX11_trace_5 ?_
    refine pv_getR (pc := 6) dX11_trace_6 fg_X11_25_11 rfl (by decide) (sx_16 hT) (rx_16_3 hR) ?_
    refine pv_iconst (pc := 9) (v := 0) dX11_trace_9 (by decide) ?_
    refine pv_ialoadj (pc := 10) dX11_trace_10 (sx_20 hT) (j := 0) (by decide) (by unfold vp_in; decide) ?_
    refine pv_icmp_ge (pc := 11) (tgt := 31) dX11_trace_11 (by decide) (fun h11 => ?_) (fun h11 => ?_)
    · refine pv_iconst (pc := 31) (v := (-1)) dX11_trace_31 (by decide) ?_
      refine pv_iret (pc := 32) dX11_trace_32 rfl rfl ?_
      refine qX.same hX ?_
      unfold S_trace
      first
        | (have f1 := h1; rw [if_neg (fun q => by have g := q.1; rw [i_le] at g; rw [i_lt] at f1; omega)]; done)
        | (have f1 := h11; rw [xb.2.2.2.1] at f1; rw [if_neg (fun q => f1 q.2.2)]; done)
        | (have f1 := h17; rw [if_neg (fun q => f1 q.2.1)]; done)
        | (have f1 := h1; have f2 := h11; have f3 : i < 20 := (by first | exact h17 | exact Classical.not_not.mp h17)
           rw [xb.2.2.2.1] at f2
           have f4 : i < J 0 5 := (by first | exact f2 | exact Classical.not_not.mp f2)
           obtain ⟨g1, g2, g3⟩ := x_20 f1 f3
           have hl := i_lit i
           have g4 : (i.toNatClampNeg : Int) < (J 0 5).toInt := (by rw [i_lt] at f4; rw [i_lt, Int32.toInt_zero] at f1; omega)
           rw [if_pos ⟨by rw [i_lt] at f1; rw [i_le]; omega, f3, f4⟩, g2, xb.2.2.2.2 _ g3 g4])
    · refine pv_iload_1 (pc := 14) dX11_trace_14 ?_
      refine pv_bipush (pc := 15) (v := 20) dX11_trace_15 (by decide) ?_
      refine pv_icmp_ge (pc := 17) (tgt := 31) dX11_trace_17 (by decide) (fun h17 => ?_) (fun h17 => ?_)
      · refine pv_iconst (pc := 31) (v := (-1)) dX11_trace_31 (by decide) ?_
        refine pv_iret (pc := 32) dX11_trace_32 rfl rfl ?_
        refine qX.same hX ?_
        unfold S_trace
        first
          | (have f1 := h1; rw [if_neg (fun q => by have g := q.1; rw [i_le] at g; rw [i_lt] at f1; omega)]; done)
          | (have f1 := h11; rw [xb.2.2.2.1] at f1; rw [if_neg (fun q => f1 q.2.2)]; done)
          | (have f1 := h17; rw [if_neg (fun q => f1 q.2.1)]; done)
          | (have f1 := h1; have f2 := h11; have f3 : i < 20 := (by first | exact h17 | exact Classical.not_not.mp h17)
             rw [xb.2.2.2.1] at f2
             have f4 : i < J 0 5 := (by first | exact f2 | exact Classical.not_not.mp f2)
             obtain ⟨g1, g2, g3⟩ := x_20 f1 f3
             have hl := i_lit i
             have g4 : (i.toNatClampNeg : Int) < (J 0 5).toInt := (by rw [i_lt] at f4; rw [i_lt, Int32.toInt_zero] at f1; omega)
             rw [if_pos ⟨by rw [i_lt] at f1; rw [i_le]; omega, f3, f4⟩, g2, xb.2.2.2.2 _ g3 g4])
      · refine pv_aload_0 (pc := 20) dX11_trace_20 ?_
        refine pv_getR (pc := 21) dX11_trace_21 fg_X11_25_11 rfl (by decide) (sx_16 hT) (rx_16_3 hR) ?_
        refine pv_iconst (pc := 24) (v := 1) dX11_trace_24 (by decide) ?_
        refine pv_iload_1 (pc := 25) dX11_trace_25 ?_
        refine pv_iadd (pc := 26) dX11_trace_26 ?_
        refine pv_ialoadj (pc := 27) dX11_trace_27 (sx_20 hT) rfl (x_20 h1 (by first | exact h17 | exact Classical.not_not.mp h17)).1 ?_
        refine pv_goto (pc := 28) (tgt := 32) dX11_trace_28 (by decide) ?_
        refine pv_iret (pc := 32) dX11_trace_32 rfl rfl ?_
        refine qX.same hX ?_
        unfold S_trace
        first
          | (have f1 := h1; rw [if_neg (fun q => by have g := q.1; rw [i_le] at g; rw [i_lt] at f1; omega)]; done)
          | (have f1 := h11; rw [xb.2.2.2.1] at f1; rw [if_neg (fun q => f1 q.2.2)]; done)
          | (have f1 := h17; rw [if_neg (fun q => f1 q.2.1)]; done)
          | (have f1 := h1; have f2 := h11; have f3 : i < 20 := (by first | exact h17 | exact Classical.not_not.mp h17)
             rw [xb.2.2.2.1] at f2
             have f4 : i < J 0 5 := (by first | exact f2 | exact Classical.not_not.mp f2)
             obtain ⟨g1, g2, g3⟩ := x_20 f1 f3
             have hl := i_lit i
             have g4 : (i.toNatClampNeg : Int) < (J 0 5).toInt := (by rw [i_lt] at f4; rw [i_lt, Int32.toInt_zero] at f1; omega)
             rw [if_pos ⟨by rw [i_lt] at f1; rw [i_le]; omega, f3, f4⟩, g2, xb.2.2.2.2 _ g3 g4])

theorem x_st {x : Int32} (h1 : ¬ x < 11) (h2 : ¬ 17 < x) : vp_in (x - 10) 8 ∧ (x - 10).toNatClampNeg < 8 := ⟨x_10 h1 h2, (pv_in_lt (x_10 h1 h2)).2.2.1⟩
theorem x_11 {x : Int32} (h : 10 < x) : ¬ x < 11 := by
  rw [i_lt, show (10 : Int32).toInt = 10 by decide] at h
  rw [i_lt, show (11 : Int32).toInt = 11 by decide]; omega
theorem S_status_c {J : pv_I} {K : pv_L} {x : Int32} (h : ¬ (11 ≤ x ∧ x ≤ 17)) : S_status J K x = (.int (if x = 0 then J 0 0 else if x = 1 then J 0 1 else if x = 2 then J 0 2 else if x = 3 then J 0 3 else if x = 4 then J 0 5 else -1), J, K) := by
  unfold S_status; rw [if_neg h]
set_option maxRecDepth 100000 in
set_option maxHeartbeats 4000000 in
theorem c_X11_status {G : pv_G} {d : Nat} {J : pv_I} {K : pv_L} {x : Int32} {t : pv_T} {I : pv_I} {L : pv_L} {Rf : pv_R} (hW : WF J K) (hX : RX J K t I L Rf)  (hd : 60 ≤ d) : pv_Mt G mX11_status d 0 0 [.ref 16, .int x] t I L Rf (qX (S_status J K x) I L) := by
  refine pv_mt mgX11_status.2.2.2.2.2 [.ref 16, .int x] rfl (Nat.le_of_ble_eq_true rfl) ?_
  have hT := hX.1
  have hR := hX.2.1
  obtain ⟨-, -, ⟨xp, xq, xn, xst, xsp, xsd, xc⟩, xf, xs, xb, xi⟩ := id hX
  refine pv_iload_1 (pc := 0) dX11_status_0 ?_
  refine pv_tab5 (pc := 1) dX11_status_1 (t0 := 36) (t1 := 44) (t2 := 52) (t3 := 60) (t4 := 68) (t5 := 75) (by decide) (by decide) (by decide) (by decide) (by decide) (by decide) (fun h1_0 => ?_) (fun h1_1 => ?_) (fun h1_2 => ?_) (fun h1_3 => ?_) (fun h1_4 => ?_) (fun h1_5 => ?_)
  · refine pv_aload_0 (pc := 36) dX11_status_36 ?_
    refine pv_getR (pc := 37) dX11_status_37 fg_X11_31_11 rfl (by decide) (sx_16 hT) (rx_16_4 hR) ?_
    refine pv_getI (pc := 40) dX11_status_40 fg_X11_151_4 rfl (by decide) (sx_21 hT) ?_
    refine pv_iret (pc := 43) dX11_status_43 rfl rfl ?_
    refine qX.same hX ?_
    have f1 : x = 0 := by rw [← Int32.toInt_inj, h1_0]; decide
    subst f1
    rw [S_status_c (by decide), xn]; rfl
  · refine pv_aload_0 (pc := 44) dX11_status_44 ?_
    refine pv_getR (pc := 45) dX11_status_45 fg_X11_31_11 rfl (by decide) (sx_16 hT) (rx_16_4 hR) ?_
    refine pv_getI (pc := 48) dX11_status_48 fg_X11_200_4 rfl (by decide) (sx_21 hT) ?_
    refine pv_iret (pc := 51) dX11_status_51 rfl rfl ?_
    refine qX.same hX ?_
    have f1 : x = 1 := by rw [← Int32.toInt_inj, h1_1]; decide
    subst f1
    rw [S_status_c (by decide), xst]; rfl
  · refine pv_aload_0 (pc := 52) dX11_status_52 ?_
    refine pv_getR (pc := 53) dX11_status_53 fg_X11_31_11 rfl (by decide) (sx_16 hT) (rx_16_4 hR) ?_
    refine pv_getI (pc := 56) dX11_status_56 fg_X11_210_4 rfl (by decide) (sx_21 hT) ?_
    refine pv_iret (pc := 59) dX11_status_59 rfl rfl ?_
    refine qX.same hX ?_
    have f1 : x = 2 := by rw [← Int32.toInt_inj, h1_2]; decide
    subst f1
    rw [S_status_c (by decide), xsp]; rfl
  · refine pv_aload_0 (pc := 60) dX11_status_60 ?_
    refine pv_getR (pc := 61) dX11_status_61 fg_X11_31_11 rfl (by decide) (sx_16 hT) (rx_16_4 hR) ?_
    refine pv_getI (pc := 64) dX11_status_64 fg_X11_325_4 rfl (by decide) (sx_21 hT) ?_
    refine pv_iret (pc := 67) dX11_status_67 rfl rfl ?_
    refine qX.same hX ?_
    have f1 : x = 3 := by rw [← Int32.toInt_inj, h1_3]; decide
    subst f1
    rw [S_status_c (by decide), xsd]; rfl
  · refine pv_aload_0 (pc := 68) dX11_status_68 ?_
    refine pv_getR (pc := 69) dX11_status_69 fg_X11_25_11 rfl (by decide) (sx_16 hT) (rx_16_3 hR) ?_
    refine pv_iconst (pc := 72) (v := 0) dX11_status_72 (by decide) ?_
    refine pv_ialoadj (pc := 73) dX11_status_73 (sx_20 hT) (j := 0) (by decide) (by unfold vp_in; decide) ?_
    refine pv_iret (pc := 74) dX11_status_74 rfl rfl ?_
    refine qX.same hX ?_
    have f1 : x = 4 := by rw [← Int32.toInt_inj, h1_4]; decide
    subst f1
    rw [S_status_c (by decide), xb.2.2.2.1]; rfl
  · refine pv_iload_1 (pc := 75) dX11_status_75 ?_
    refine pv_bipush (pc := 76) (v := 10) dX11_status_76 (by decide) ?_
    refine pv_icmp_le (pc := 78) (tgt := 99) dX11_status_78 (by decide) (fun h78 => ?_) (fun h78 => ?_)
    · refine pv_iconst (pc := 99) (v := (-1)) dX11_status_99 (by decide) ?_
      refine pv_iret (pc := 100) dX11_status_100 rfl rfl ?_
      have n0 : ¬ x = 0 := fun q => by rw [q] at h1_5; revert h1_5; decide
      have n1 : ¬ x = 1 := fun q => by rw [q] at h1_5; revert h1_5; decide
      have n2 : ¬ x = 2 := fun q => by rw [q] at h1_5; revert h1_5; decide
      have n3 : ¬ x = 3 := fun q => by rw [q] at h1_5; revert h1_5; decide
      have n4 : ¬ x = 4 := fun q => by rw [q] at h1_5; revert h1_5; decide
      refine qX.same hX ?_
      first
        | (have f1 : ¬ 10 < x := h78
           rw [S_status_c (fun q => f1 (by have g := q.1; rw [i_le, show (11 : Int32).toInt = 11 by decide] at g; rw [i_lt, show (10 : Int32).toInt = 10 by decide]; omega)), if_neg n0, if_neg n1, if_neg n2, if_neg n3, if_neg n4])
        | (have f1 : 17 < x := h84
           rw [S_status_c (fun q => by have g := q.2; rw [i_le] at g; rw [i_lt] at f1; omega), if_neg n0, if_neg n1, if_neg n2, if_neg n3, if_neg n4])
        | (have f1 : 10 < x := (by first | exact h78 | exact Classical.not_not.mp h78)
           have f2 : ¬ 17 < x := h84
           unfold S_status
           rw [if_pos ⟨(by rw [i_lt, show (10 : Int32).toInt = 10 by decide] at f1; rw [i_le, show (11 : Int32).toInt = 11 by decide]; omega), (by rw [i_lt] at f2; rw [i_le]; omega)⟩, xb.1 _ (x_st (x_11 f1) f2).2])
    · refine pv_iload_1 (pc := 81) dX11_status_81 ?_
      refine pv_bipush (pc := 82) (v := 17) dX11_status_82 (by decide) ?_
      refine pv_icmp_gt (pc := 84) (tgt := 99) dX11_status_84 (by decide) (fun h84 => ?_) (fun h84 => ?_)
      · refine pv_iconst (pc := 99) (v := (-1)) dX11_status_99 (by decide) ?_
        refine pv_iret (pc := 100) dX11_status_100 rfl rfl ?_
        have n0 : ¬ x = 0 := fun q => by rw [q] at h1_5; revert h1_5; decide
        have n1 : ¬ x = 1 := fun q => by rw [q] at h1_5; revert h1_5; decide
        have n2 : ¬ x = 2 := fun q => by rw [q] at h1_5; revert h1_5; decide
        have n3 : ¬ x = 3 := fun q => by rw [q] at h1_5; revert h1_5; decide
        have n4 : ¬ x = 4 := fun q => by rw [q] at h1_5; revert h1_5; decide
        refine qX.same hX ?_
        first
          | (have f1 : ¬ 10 < x := h78
             rw [S_status_c (fun q => f1 (by have g := q.1; rw [i_le, show (11 : Int32).toInt = 11 by decide] at g; rw [i_lt, show (10 : Int32).toInt = 10 by decide]; omega)), if_neg n0, if_neg n1, if_neg n2, if_neg n3, if_neg n4])
          | (have f1 : 17 < x := h84
             rw [S_status_c (fun q => by have g := q.2; rw [i_le] at g; rw [i_lt] at f1; omega), if_neg n0, if_neg n1, if_neg n2, if_neg n3, if_neg n4])
          | (have f1 : 10 < x := (by first | exact h78 | exact Classical.not_not.mp h78)
             have f2 : ¬ 17 < x := h84
             unfold S_status
             rw [if_pos ⟨(by rw [i_lt, show (10 : Int32).toInt = 10 by decide] at f1; rw [i_le, show (11 : Int32).toInt = 11 by decide]; omega), (by rw [i_lt] at f2; rw [i_le]; omega)⟩, xb.1 _ (x_st (x_11 f1) f2).2])
      · refine pv_aload_0 (pc := 87) dX11_status_87 ?_
        refine pv_getR (pc := 88) dX11_status_88 fg_X11_21_11 rfl (by decide) (sx_16 hT) (rx_16_2 hR) ?_
        refine pv_iload_1 (pc := 91) dX11_status_91 ?_
        refine pv_bipush (pc := 92) (v := 10) dX11_status_92 (by decide) ?_
        refine pv_isub (pc := 94) dX11_status_94 ?_
        refine pv_ialoadj (pc := 95) dX11_status_95 (sx_19 hT) rfl (x_10 (x_11 (by first | exact h78 | exact Classical.not_not.mp h78)) (by first | exact h84 | exact Classical.not_not.mp h84)) ?_
        refine pv_goto (pc := 96) (tgt := 100) dX11_status_96 (by decide) ?_
        refine pv_iret (pc := 100) dX11_status_100 rfl rfl ?_
        have n0 : ¬ x = 0 := fun q => by rw [q] at h1_5; revert h1_5; decide
        have n1 : ¬ x = 1 := fun q => by rw [q] at h1_5; revert h1_5; decide
        have n2 : ¬ x = 2 := fun q => by rw [q] at h1_5; revert h1_5; decide
        have n3 : ¬ x = 3 := fun q => by rw [q] at h1_5; revert h1_5; decide
        have n4 : ¬ x = 4 := fun q => by rw [q] at h1_5; revert h1_5; decide
        refine qX.same hX ?_
        first
          | (have f1 : ¬ 10 < x := h78
             rw [S_status_c (fun q => f1 (by have g := q.1; rw [i_le, show (11 : Int32).toInt = 11 by decide] at g; rw [i_lt, show (10 : Int32).toInt = 10 by decide]; omega)), if_neg n0, if_neg n1, if_neg n2, if_neg n3, if_neg n4])
          | (have f1 : 17 < x := h84
             rw [S_status_c (fun q => by have g := q.2; rw [i_le] at g; rw [i_lt] at f1; omega), if_neg n0, if_neg n1, if_neg n2, if_neg n3, if_neg n4])
          | (have f1 : 10 < x := (by first | exact h78 | exact Classical.not_not.mp h78)
             have f2 : ¬ 17 < x := h84
             unfold S_status
             rw [if_pos ⟨(by rw [i_lt, show (10 : Int32).toInt = 10 by decide] at f1; rw [i_le, show (11 : Int32).toInt = 11 by decide]; omega), (by rw [i_lt] at f2; rw [i_le]; omega)⟩, xb.1 _ (x_st (x_11 f1) f2).2])

set_option maxRecDepth 100000 in
set_option maxHeartbeats 4000000 in
theorem c_X4_become {G : pv_G} {d : Nat} {h : Nat} {p q : Int64} {t : pv_T} {I : pv_I} {L : pv_L} {Rf : pv_R} (h16 : 16 ≤ h) (hh : t.1 h = some (.inr 4)) : pv_Mt G mX4_become d 0 0 [.ref h, .long p, .long q] t I L Rf (pv_is none t I (pv_u (pv_u L h 1 p) h 2 q) Rf) := by
  refine pv_mt mgX4_become.2.2.2.2.2 [.ref h, .long p, .retAddr 0, .long q, .retAddr 0] rfl (Nat.le_of_ble_eq_true rfl) ?_
  refine pv_aload_0 (pc := 0) dX4_become_0 ?_
  refine pv_lload_1 (pc := 1) dX4_become_1 ?_
  refine pv_putL (pc := 2) dX4_become_2 fl_X4_29_4 (fun q => by cases q) h16 hh ?_
  refine pv_aload_0 (pc := 5) dX4_become_5 ?_
  refine pv_lload_3 (pc := 6) dX4_become_6 ?_
  refine pv_putL (pc := 7) dX4_become_7 fl_X4_15_4 (fun q => by cases q) h16 hh ?_
  refine pv_vret (pc := 10) dX4_become_10 rfl ?_
  exact ⟨rfl, rfl, rfl, rfl, rfl⟩

set_option maxRecDepth 100000 in
set_option maxHeartbeats 4000000 in
theorem c_X11_start {G : pv_G} {d : Nat} {J : pv_I} {K : pv_L} {p q : Int64} {t : pv_T} {I : pv_I} {L : pv_L} {Rf : pv_R} (hW : WF J K) (hX : RX J K t I L Rf)  (hd : 60 ≤ d) : pv_Mt G mX11_start d 0 0 [.ref 16, .long p, .long q] t I L Rf (qX (S_start J K p q) I L) := by
  refine pv_mt mgX11_start.2.2.2.2.2 [.ref 16, .long p, .retAddr 0, .long q, .retAddr 0] rfl (Nat.le_of_ble_eq_true rfl) ?_
  have hT := hX.1
  have hR := hX.2.1
  obtain ⟨-, -, ⟨xp, xq, xn, xst, xsp, xsd, xc⟩, xf, xs, xb, xi⟩ := id hX
  refine pv_lload_1 (pc := 0) dX11_start_0 ?_
  refine pv_lload_3 (pc := 1) dX11_start_1 ?_
  refine pv_callS1 (pc := 2) dX11_start_2 mgX11_isNumber ls_X11_161 (by omega) (c_X11_isNumber hT (by omega)) rfl rfl (by decide) ?_
  refine pv_if_ne (pc := 5) (tgt := 15) dX11_start_5 (by decide) (fun h5 => ?_) (fun h5 => ?_)
  · refine pv_aload_0 (pc := 15) dX11_start_15 ?_
    refine pv_getR (pc := 16) dX11_start_16 fg_X11_31_11 rfl (by decide) (sx_16 hT) (rx_16_4 hR) ?_
    refine pv_lload_1 (pc := 19) dX11_start_19 ?_
    refine pv_lload_3 (pc := 20) dX11_start_20 ?_
    refine pv_callV0 (pc := 21) dX11_start_21 mgX4_become lv_X11_165_4 (by decide) (sx_21 hT) (by omega) (c_X4_become (by decide) (sx_21 hT)) rfl rfl (by decide) ?_
    refine pv_iconst (pc := 24) (v := 1) dX11_start_24 (by decide) ?_
    refine pv_iret (pc := 25) dX11_start_25 rfl rfl ?_
    have e : S_start J K p q = (.int 1, J, pv_u (pv_u K 0 0 p) 0 1 q) := by unfold S_start; rw [if_pos ((pv_b_n0 _).mp h5)]
    rw [e]
    have hL : ∀ a j, a ≠ 21 → pv_u (pv_u L 21 1 p) 21 2 q a j = L a j := fun a j h => by rw [pv_u_o _ (by omega), pv_u_o _ (by omega)]
    exact ⟨rfl, hX.hall (fun _ _ _ _ => rfl) hL (fun _ _ _ _ => rfl) (fun a j h => by show pv_u (pv_u K 0 0 p) 0 1 q a j = K a j; rw [pv_u_o _ (by omega), pv_u_o _ (by omega)]) ⟨rfl, rfl, xn, xst, xsp, xsd, xc⟩, kM.h (fun _ _ _ _ => rfl) hL⟩
  · refine pv_aload_0 (pc := 8) dX11_start_8 ?_
    refine pv_bipush (pc := 9) (v := 6) dX11_start_9 (by decide) ?_
    refine pv_callV1 (pc := 11) dX11_start_11 mgX11_refuse lv_X11_70_11 (by decide) (sx_16 hT) (by omega) (c_X11_refuse (k := 6) hT hR (by decide) (by unfold vp_in; decide)) rfl rfl (by decide) ?_
    refine pv_iret (pc := 14) dX11_start_14 rfl rfl ?_
    refine qX.ref hX k_l6 ?_; unfold S_start; rw [if_neg (by rw [(pv_b_0 _).mp h5]; decide)]

def x_fl {α : Type} (f : Nat → Nat → α) (a : Nat) (v : α) (n : Nat) : Nat → Nat → α := fun b j => if b = a ∧ j < n then v else f b j
theorem x_fl_0 {α : Type} (f : Nat → Nat → α) (a : Nat) (v : α) : x_fl f a v 0 = f := by funext b j; unfold x_fl; rw [if_neg (by omega)]
theorem x_fl_s {α : Type} (f : Nat → Nat → α) (a : Nat) (v : α) (n : Nat) : pv_u (x_fl f a v n) a n v = x_fl f a v (n + 1) := by
  funext b j
  rw [pv_u_app]
  unfold x_fl
  by_cases h : b = a ∧ j = n
  · rw [if_pos h, if_pos (by omega)]
  · rw [if_neg h]
    by_cases g : b = a ∧ j < n
    · rw [if_pos g, if_pos (by omega)]
    · rw [if_neg g, if_neg (by omega)]
theorem x_fl_o {α : Type} {f : Nat → Nat → α} {a b j n : Nat} {v : α} (h : b ≠ a) : x_fl f a v n b j = f b j := if_neg (fun q => h q.1)
theorem x_fl_i {α : Type} {f : Nat → Nat → α} {a j n : Nat} {v : α} (h : j < n) : x_fl f a v n a j = v := if_pos ⟨rfl, h⟩
set_option maxRecDepth 100000 in
set_option maxHeartbeats 4000000 in
theorem l_fl_d0a16 {G : pv_G} {d : Nat} {a n : Nat} {v : Int64} {t : pv_T} {I : pv_I} {L : pv_L} {Rf : pv_R} (h16 : 16 ≤ a) (ha : t.1 a = some (.inl (.long, n))) (hn : n < 2147483648) : ∀ (m i : Nat), i + m = n → pv_V G mJ7_fill_d0a16 d 0 0 (pv_is none t I (x_fl L a v n) Rf) 0 0 6 [.ref a, .long v, .retAddr 0, .int (Int32.ofNat i), .int (Int32.ofNat n)] [] t I (x_fl L a v i) Rf := by
  intro m
  induction m with
  | zero =>
    intro i hi
    refine pv_iload_3 (pc := 6) dJ7_fill_d0a16_6 ?_
    refine pv_iload_4 (pc := 7) dJ7_fill_d0a16_7 ?_
    refine pv_icmp_ge (pc := 9) (tgt := 22) dJ7_fill_d0a16_9 (by decide) (fun h9 => ?_) (fun h9 => absurd h9 (by rw [i_ltn (by omega) (by omega)]; omega))
    refine pv_vret (pc := 22) dJ7_fill_d0a16_22 rfl ?_
    rw [show i = n by omega]; exact ⟨rfl, rfl, rfl, rfl, rfl⟩
  | succ m ih =>
    intro i hi
    refine pv_iload_3 (pc := 6) dJ7_fill_d0a16_6 ?_
    refine pv_iload_4 (pc := 7) dJ7_fill_d0a16_7 ?_
    refine pv_icmp_ge (pc := 9) (tgt := 22) dJ7_fill_d0a16_9 (by decide) (fun h9 => absurd h9 (not_not_intro (by rw [i_ltn (by omega) (by omega)]; omega))) (fun h9 => ?_)
    refine pv_aload_0 (pc := 12) dJ7_fill_d0a16_12 ?_
    refine pv_iload_3 (pc := 13) dJ7_fill_d0a16_13 ?_
    refine pv_lload_1 (pc := 14) dJ7_fill_d0a16_14 ?_
    refine pv_lastorej (pc := 15) dJ7_fill_d0a16_15 h16 ha rfl (i_in (k := i) (by omega) (by omega)) ?_
    refine pv_iinc_3 (pc := 16) (v := _ + 1) dJ7_fill_d0a16_16 rfl (by decide) rfl ?_
    refine pv_goto (pc := 19) (tgt := 6) dJ7_fill_d0a16_19 (by decide) ?_
    rw [i_inc, i_nat (by omega), x_fl_s]
    exact ih (i + 1) (by omega)

set_option maxRecDepth 100000 in
set_option maxHeartbeats 4000000 in
theorem c_J7_fill_d0a16 {G : pv_G} {d : Nat} {a n : Nat} {v : Int64} {t : pv_T} {I : pv_I} {L : pv_L} {Rf : pv_R} (h16 : 16 ≤ a) (ha : t.1 a = some (.inl (.long, n))) (hn : n < 2147483648) : pv_Mt G mJ7_fill_d0a16 d 0 0 [.ref a, .long v] t I L Rf (pv_is none t I (x_fl L a v n) Rf) := by
  refine pv_mt mgJ7_fill_d0a16.2.2.2.2.2 [.ref a, .long v, .retAddr 0, .retAddr 0, .retAddr 0] rfl (Nat.le_of_ble_eq_true rfl) ?_
  refine pv_iconst (pc := 0) (v := 0) dJ7_fill_d0a16_0 (by decide) ?_
  refine pv_istore_3 (pc := 1) dJ7_fill_d0a16_1 (by decide) rfl ?_
  refine pv_aload_0 (pc := 2) dJ7_fill_d0a16_2 ?_
  refine pv_alen (pc := 3) dJ7_fill_d0a16_3 ha rfl ?_
  refine pv_istore_4 (pc := 4) dJ7_fill_d0a16_4 (by decide) rfl ?_
  have h := l_fl_d0a16 (G := G) (d := d) (v := v) (I := I) (L := L) (Rf := Rf) h16 ha hn n 0 (by omega)
  rw [x_fl_0] at h
  exact h

set_option maxRecDepth 100000 in
set_option maxHeartbeats 4000000 in
theorem l_fl_53178 {G : pv_G} {d : Nat} {a n : Nat} {v : Int32} {t : pv_T} {I : pv_I} {L : pv_L} {Rf : pv_R} (h16 : 16 ≤ a) (ha : t.1 a = some (.inl (.int, n))) (hn : n < 2147483648) : ∀ (m i : Nat), i + m = n → pv_V G mJ7_fill_53178 d 0 0 (pv_is none t (x_fl I a v n) L Rf) 0 0 5 [.ref a, .int v, .int (Int32.ofNat i), .int (Int32.ofNat n)] [] t (x_fl I a v i) L Rf := by
  intro m
  induction m with
  | zero =>
    intro i hi
    refine pv_iload_2 (pc := 5) dJ7_fill_53178_5 ?_
    refine pv_iload_3 (pc := 6) dJ7_fill_53178_6 ?_
    refine pv_icmp_ge (pc := 7) (tgt := 20) dJ7_fill_53178_7 (by decide) (fun h7 => ?_) (fun h7 => absurd h7 (by rw [i_ltn (by omega) (by omega)]; omega))
    refine pv_vret (pc := 20) dJ7_fill_53178_20 rfl ?_
    rw [show i = n by omega]; exact ⟨rfl, rfl, rfl, rfl, rfl⟩
  | succ m ih =>
    intro i hi
    refine pv_iload_2 (pc := 5) dJ7_fill_53178_5 ?_
    refine pv_iload_3 (pc := 6) dJ7_fill_53178_6 ?_
    refine pv_icmp_ge (pc := 7) (tgt := 20) dJ7_fill_53178_7 (by decide) (fun h7 => absurd h7 (not_not_intro (by rw [i_ltn (by omega) (by omega)]; omega))) (fun h7 => ?_)
    refine pv_aload_0 (pc := 10) dJ7_fill_53178_10 ?_
    refine pv_iload_2 (pc := 11) dJ7_fill_53178_11 ?_
    refine pv_iload_1 (pc := 12) dJ7_fill_53178_12 ?_
    refine pv_iastorej (pc := 13) dJ7_fill_53178_13 h16 ha rfl (i_in (k := i) (by omega) (by omega)) ?_
    refine pv_iinc_2 (pc := 14) (v := _ + 1) dJ7_fill_53178_14 rfl (by decide) rfl ?_
    refine pv_goto (pc := 17) (tgt := 5) dJ7_fill_53178_17 (by decide) ?_
    rw [i_inc, i_nat (by omega), x_fl_s]
    exact ih (i + 1) (by omega)

set_option maxRecDepth 100000 in
set_option maxHeartbeats 4000000 in
theorem c_J7_fill_53178 {G : pv_G} {d : Nat} {a n : Nat} {v : Int32} {t : pv_T} {I : pv_I} {L : pv_L} {Rf : pv_R} (h16 : 16 ≤ a) (ha : t.1 a = some (.inl (.int, n))) (hn : n < 2147483648) : pv_Mt G mJ7_fill_53178 d 0 0 [.ref a, .int v] t I L Rf (pv_is none t (x_fl I a v n) L Rf) := by
  refine pv_mt mgJ7_fill_53178.2.2.2.2.2 [.ref a, .int v, .retAddr 0, .retAddr 0] rfl (Nat.le_of_ble_eq_true rfl) ?_
  refine pv_iconst (pc := 0) (v := 0) dJ7_fill_53178_0 (by decide) ?_
  refine pv_istore_2 (pc := 1) dJ7_fill_53178_1 (by decide) rfl ?_
  refine pv_aload_0 (pc := 2) dJ7_fill_53178_2 ?_
  refine pv_alen (pc := 3) dJ7_fill_53178_3 ha rfl ?_
  refine pv_istore_3 (pc := 4) dJ7_fill_53178_4 (by decide) rfl ?_
  have h := l_fl_53178 (G := G) (d := d) (v := v) (I := I) (L := L) (Rf := Rf) h16 ha hn n 0 (by omega)
  rw [x_fl_0] at h
  exact h

