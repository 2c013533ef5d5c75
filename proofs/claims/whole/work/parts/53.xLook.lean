/-! the class: the calls that look -/

set_option maxRecDepth 100000 in
set_option maxHeartbeats 4000000 in
theorem c_X11_fault {G : pv_G} {d : Nat} {J : pv_I} {K : pv_L}  {t : pv_T} {I : pv_I} {L : pv_L} {Rf : pv_R} (hW : WF J K) (hX : RX J K t I L Rf)  (hd : 60 ≤ d) : pv_Mt G mX11_fault d 0 0 [.ref 16] t I L Rf (qX (S_fault J K) I L) := by
  refine pv_mt mgX11_fault.2.2.2.2.2 [.ref 16] rfl (Nat.le_of_ble_eq_true rfl) ?_
  have hT := hX.1
  have hR := hX.2.1
  obtain ⟨-, -, ⟨xp, xq, xn, xst, xsp, xsd, xc⟩, xf, xs, xb, xi⟩ := id hX
  refine pv_aload_0 (pc := 0) dX11_fault_0 ?_
  refine pv_getI (pc := 1) dX11_fault_1 fg_X11_61_11 rfl (by decide) (sx_16 hT) ?_
  refine pv_iret (pc := 4) dX11_fault_4 rfl rfl ?_
  exact qX.same hX (by unfold S_fault; rw [xb.2.1])

set_option maxRecDepth 100000 in
set_option maxHeartbeats 4000000 in
theorem c_X11_now {G : pv_G} {d : Nat} {J : pv_I} {K : pv_L} {x : Int32} {t : pv_T} {I : pv_I} {L : pv_L} {Rf : pv_R} (hW : WF J K) (hX : RX J K t I L Rf)  (hd : 60 ≤ d) : pv_Mt G mX11_now d 0 0 [.ref 16, .int x] t I L Rf (qX (S_now J K x) I L) := by
  refine pv_mt mgX11_now.2.2.2.2.2 [.ref 16, .int x] rfl (Nat.le_of_ble_eq_true rfl) ?_
  have hT := hX.1
  have hR := hX.2.1
  obtain ⟨-, -, ⟨xp, xq, xn, xst, xsp, xsd, xc⟩, xf, xs, xb, xi⟩ := id hX
  refine pv_iload_1 (pc := 0) dX11_now_0 ?_
  refine pv_if_eq (pc := 1) (tgt := 15) dX11_now_1 (by decide) (fun h1 => ?_) (fun h1 => ?_)
  · refine pv_iload_1 (pc := 15) dX11_now_15 ?_
    refine pv_if_ne (pc := 16) (tgt := 29) dX11_now_16 (by decide) (fun h16 => ?_) (fun h16 => ?_)
    · refine pv_aload_0 (pc := 29) dX11_now_29 ?_
      refine pv_getR (pc := 30) dX11_now_30 fg_X11_31_11 rfl (by decide) (sx_16 hT) (rx_16_4 hR) ?_
      refine pv_getL (pc := 33) dX11_now_33 fg_X11_190_4 (by decide) (sx_21 hT) ?_
      refine pv_lret (pc := 36) dX11_now_36 rfl ?_
      first
        | (have f1 : x = 0 := (by first | exact h16 | exact Classical.not_not.mp h16); refine qX.same hX ?_; unfold S_now; rw [if_pos f1, xp]; done)
        | (have f1 : ¬ x = 0 := h16
           have f2 : x = 1 := (by first | exact h6 | exact Classical.not_not.mp h6)
           refine qX.same hX ?_; unfold S_now; rw [if_neg f1, if_pos f2, xq]; done)
        | (exfalso; exact h16 (by first | exact h1 | exact Classical.not_not.mp h1))
    · refine pv_aload_0 (pc := 19) dX11_now_19 ?_
      refine pv_getR (pc := 20) dX11_now_20 fg_X11_31_11 rfl (by decide) (sx_16 hT) (rx_16_4 hR) ?_
      refine pv_getL (pc := 23) dX11_now_23 fg_X11_186_4 (by decide) (sx_21 hT) ?_
      refine pv_goto (pc := 26) (tgt := 36) dX11_now_26 (by decide) ?_
      refine pv_lret (pc := 36) dX11_now_36 rfl ?_
      first
        | (have f1 : x = 0 := (by first | exact h16 | exact Classical.not_not.mp h16); refine qX.same hX ?_; unfold S_now; rw [if_pos f1, xp]; done)
        | (have f1 : ¬ x = 0 := h16
           have f2 : x = 1 := (by first | exact h6 | exact Classical.not_not.mp h6)
           refine qX.same hX ?_; unfold S_now; rw [if_neg f1, if_pos f2, xq]; done)
        | (exfalso; exact h16 (by first | exact h1 | exact Classical.not_not.mp h1))
  · refine pv_iload_1 (pc := 4) dX11_now_4 ?_
    refine pv_iconst (pc := 5) (v := 1) dX11_now_5 (by decide) ?_
    refine pv_icmp_eq (pc := 6) (tgt := 15) dX11_now_6 (by decide) (fun h6 => ?_) (fun h6 => ?_)
    · refine pv_iload_1 (pc := 15) dX11_now_15 ?_
      refine pv_if_ne (pc := 16) (tgt := 29) dX11_now_16 (by decide) (fun h16 => ?_) (fun h16 => ?_)
      · refine pv_aload_0 (pc := 29) dX11_now_29 ?_
        refine pv_getR (pc := 30) dX11_now_30 fg_X11_31_11 rfl (by decide) (sx_16 hT) (rx_16_4 hR) ?_
        refine pv_getL (pc := 33) dX11_now_33 fg_X11_190_4 (by decide) (sx_21 hT) ?_
        refine pv_lret (pc := 36) dX11_now_36 rfl ?_
        first
          | (have f1 : x = 0 := (by first | exact h16 | exact Classical.not_not.mp h16); refine qX.same hX ?_; unfold S_now; rw [if_pos f1, xp]; done)
          | (have f1 : ¬ x = 0 := h16
             have f2 : x = 1 := (by first | exact h6 | exact Classical.not_not.mp h6)
             refine qX.same hX ?_; unfold S_now; rw [if_neg f1, if_pos f2, xq]; done)
          | (exfalso; exact h16 (by first | exact h1 | exact Classical.not_not.mp h1))
      · refine pv_aload_0 (pc := 19) dX11_now_19 ?_
        refine pv_getR (pc := 20) dX11_now_20 fg_X11_31_11 rfl (by decide) (sx_16 hT) (rx_16_4 hR) ?_
        refine pv_getL (pc := 23) dX11_now_23 fg_X11_186_4 (by decide) (sx_21 hT) ?_
        refine pv_goto (pc := 26) (tgt := 36) dX11_now_26 (by decide) ?_
        refine pv_lret (pc := 36) dX11_now_36 rfl ?_
        first
          | (have f1 : x = 0 := (by first | exact h16 | exact Classical.not_not.mp h16); refine qX.same hX ?_; unfold S_now; rw [if_pos f1, xp]; done)
          | (have f1 : ¬ x = 0 := h16
             have f2 : x = 1 := (by first | exact h6 | exact Classical.not_not.mp h6)
             refine qX.same hX ?_; unfold S_now; rw [if_neg f1, if_pos f2, xq]; done)
          | (exfalso; exact h16 (by first | exact h1 | exact Classical.not_not.mp h1))
    · refine pv_aload_0 (pc := 9) dX11_now_9 ?_
      refine pv_iconst (pc := 10) (v := 5) dX11_now_10 (by decide) ?_
      refine pv_callV1 (pc := 11) dX11_now_11 mgX11_refuseFar lv_X11_183_11 (by decide) (sx_16 hT) (by omega) (c_X11_refuseFar (k := 5) hT hR (by decide) (by unfold vp_in; decide) (by omega)) rfl rfl (by decide) ?_
      refine pv_lret (pc := 14) dX11_now_14 rfl ?_
      have f1 : ¬ x = 0 := h1
      have f2 : ¬ x = 1 := h6
      refine qX.ref hX k_lt5b ?_; unfold S_now; rw [if_neg f1, if_neg f2]; rfl

theorem x_c4 {c : Int32} (h1 : ¬ c < 0) (h2 : c < Int32.ofNat 4) : vp_in c 4 := by
  rw [i_lt, Int32.toInt_zero] at h1
  rw [i_lt, show (Int32.ofNat 4).toInt = 4 by decide] at h2
  exact pv_in_of (by omega) (by omega)
set_option maxRecDepth 100000 in
set_option maxHeartbeats 4000000 in
theorem c_X11_stand {G : pv_G} {d : Nat} {J : pv_I} {K : pv_L} {c : Int32} {t : pv_T} {I : pv_I} {L : pv_L} {Rf : pv_R} (hW : WF J K) (hX : RX J K t I L Rf)  (hd : 60 ≤ d) : pv_Mt G mX11_stand d 0 0 [.ref 16, .int c] t I L Rf (qX (S_stand J K c) I L) := by
  refine pv_mt mgX11_stand.2.2.2.2.2 [.ref 16, .int c] rfl (Nat.le_of_ble_eq_true rfl) ?_
  have hT := hX.1
  have hR := hX.2.1
  obtain ⟨-, -, ⟨xp, xq, xn, xst, xsp, xsd, xc⟩, xf, xs, xb, xi⟩ := id hX
  refine pv_iload_1 (pc := 0) dX11_stand_0 ?_
  refine pv_if_lt (pc := 1) (tgt := 16) dX11_stand_1 (by decide) (fun h1 => ?_) (fun h1 => ?_)
  · refine pv_aload_0 (pc := 16) dX11_stand_16 ?_
    refine pv_iconst (pc := 17) (v := 5) dX11_stand_17 (by decide) ?_
    refine pv_callV1 (pc := 18) dX11_stand_18 mgX11_refuse lv_X11_70_11 (by decide) (sx_16 hT) (by omega) (c_X11_refuse (k := 5) hT hR (by decide) (by unfold vp_in; decide)) rfl rfl (by decide) ?_
    refine pv_iret (pc := 21) dX11_stand_21 rfl rfl ?_
    refine qX.ref hX k_lt5b ?_
    unfold S_stand
    rw [if_neg]
    rintro ⟨g1, g2⟩
    first
      | (have f1 := h1; rw [i_le] at g1; rw [i_lt] at f1; omega)
      | (have f2 := h13; exact f2 g2)
  · refine pv_iload_1 (pc := 4) dX11_stand_4 ?_
    refine pv_aload_0 (pc := 5) dX11_stand_5 ?_
    refine pv_getR (pc := 6) dX11_stand_6 fg_X11_31_11 rfl (by decide) (sx_16 hT) (rx_16_4 hR) ?_
    refine pv_getR (pc := 9) dX11_stand_9 fg_X11_193_4 rfl (by decide) (sx_21 hT) (rx_21_0 hR) ?_
    refine pv_alen (pc := 12) dX11_stand_12 (sx_22 hT) rfl ?_
    refine pv_icmp_lt (pc := 13) (tgt := 22) dX11_stand_13 (by decide) (fun h13 => ?_) (fun h13 => ?_)
    · refine pv_aload_0 (pc := 22) dX11_stand_22 ?_
      refine pv_getR (pc := 23) dX11_stand_23 fg_X11_31_11 rfl (by decide) (sx_16 hT) (rx_16_4 hR) ?_
      refine pv_getR (pc := 26) dX11_stand_26 fg_X11_193_4 rfl (by decide) (sx_21 hT) (rx_21_0 hR) ?_
      refine pv_iload_1 (pc := 29) dX11_stand_29 ?_
      refine pv_ialoadj (pc := 30) dX11_stand_30 (sx_22 hT) rfl (x_c4 h1 (by first | exact h13 | exact Classical.not_not.mp h13)) ?_
      refine pv_iret (pc := 31) dX11_stand_31 rfl rfl ?_
      have hc := x_c4 h1 (by first | exact h13 | exact Classical.not_not.mp h13)
      have h0 := pv_in_lt hc
      refine qX.same hX ?_
      unfold S_stand
      rw [if_pos ⟨by rw [i_le, Int32.toInt_zero]; omega, by rw [i_lt, show (4 : Int32).toInt = 4 by decide]; omega⟩, xc _ h0.2.2.1]
    · refine pv_aload_0 (pc := 16) dX11_stand_16 ?_
      refine pv_iconst (pc := 17) (v := 5) dX11_stand_17 (by decide) ?_
      refine pv_callV1 (pc := 18) dX11_stand_18 mgX11_refuse lv_X11_70_11 (by decide) (sx_16 hT) (by omega) (c_X11_refuse (k := 5) hT hR (by decide) (by unfold vp_in; decide)) rfl rfl (by decide) ?_
      refine pv_iret (pc := 21) dX11_stand_21 rfl rfl ?_
      refine qX.ref hX k_lt5b ?_
      unfold S_stand
      rw [if_neg]
      rintro ⟨g1, g2⟩
      first
        | (have f1 := h1; rw [i_le] at g1; rw [i_lt] at f1; omega)
        | (have f2 := h13; exact f2 g2)

set_option maxRecDepth 100000 in
set_option maxHeartbeats 4000000 in
theorem c_X11_element {G : pv_G} {d : Nat} {J : pv_I} {K : pv_L} {s i : Int32} {t : pv_T} {I : pv_I} {L : pv_L} {Rf : pv_R} (hW : WF J K) (hX : RX J K t I L Rf)  (hd : 60 ≤ d) : pv_Mt G mX11_element d 0 0 [.ref 16, .int s, .int i] t I L Rf (qX (S_element J K s i) I L) := by
  refine pv_mt mgX11_element.2.2.2.2.2 [.ref 16, .int s, .int i, .retAddr 0] rfl (Nat.le_of_ble_eq_true rfl) ?_
  have hT := hX.1
  have hR := hX.2.1
  obtain ⟨-, -, ⟨xp, xq, xn, xst, xsp, xsd, xc⟩, xf, xs, xb, xi⟩ := id hX
  by_cases hs : s_sh s = true
  · have hin := s_sh_in hs
    have hs8 : s.toNatClampNeg < 8 := (pv_in_lt hin).2.2.1
    have hkd := x_kind hW hX hs8
    refine pv_aload_0 (pc := 0) dX11_element_0 ?_
    refine pv_iload_1 (pc := 1) dX11_element_1 ?_
    refine pv_callV1 (pc := 2) dX11_element_2 mgX11_shelfAt lv_X11_66_11 (by decide) (sx_16 hT) (by omega) (c_X11_shelfAt1 hT hR hin) rfl rfl (by decide) ?_
    refine pv_astore_3 (pc := 5) dX11_element_5 (by decide) rfl ?_
    refine pv_aload_3 (pc := 6) dX11_element_6 ?_
    refine pv_ifnonnull (pc := 7) (tgt := 14) dX11_element_7 (by decide) ?_
    refine pv_aload_3 (pc := 14) dX11_element_14 ?_
    refine pv_iload_2 (pc := 15) dX11_element_15 ?_
    refine pv_callV1 (pc := 16) dX11_element_16 mgX8_whole lv_X11_110_8 (by omega) (sx_sh hT hs8) (by omega) (c_X8_whole hT hR hs8 (by omega)) rfl rfl (by decide) ?_
    refine pv_lret (pc := 19) dX11_element_19 rfl ?_
    refine qX.same hX ?_
    unfold S_element w_sh
    rcases hkd with ⟨k1, k2, k3, k4⟩ | ⟨k1, k2, k3, k4, k5, k6, k7⟩ | ⟨k1, k2, k3, k4, k5⟩
    · rw [if_neg (fun q => by rw [k1] at q; exact absurd q.2.1 (by decide)), if_neg (fun q => by have g := x_has_in q; rw [k3, Int32.toInt_zero] at g; omega)]
    · by_cases g : x_has I s.toNatClampNeg i = true
      · have g2 := x_has_in g
        have g0 := pv_in_lt g2.1
        rw [k3] at g2
        rw [if_pos g, if_pos ⟨hs, k1, by rw [i_le, Int32.toInt_zero]; omega, by rw [i_lt]; omega⟩, k7 _ g0.2.2.1]
      · rw [if_neg g, if_neg]
        rintro ⟨_, _, q3, q4⟩
        refine g ?_
        unfold x_has
        rw [k3, decide_eq_true q3, decide_eq_true q4, decide_eq_true (by rw [i_lt, show (160 : Int32).toInt = 160 by decide]; rw [i_lt] at q4; omega)]; rfl
    · rw [if_neg (fun q => by rw [k1] at q; exact absurd q.2.1 (by decide)), if_neg (fun q => by have g := x_has_in q; rw [k3, Int32.toInt_zero] at g; omega)]
  · have hs0 : s_sh s = false := by simpa using hs
    refine pv_aload_0 (pc := 0) dX11_element_0 ?_
    refine pv_iload_1 (pc := 1) dX11_element_1 ?_
    refine pv_callV1 (pc := 2) dX11_element_2 mgX11_shelfAt lv_X11_66_11 (by decide) (sx_16 hT) (by omega) (c_X11_shelfAt0 hT hR hs0) rfl rfl (by decide) ?_
    refine pv_astoreN_3 (pc := 5) dX11_element_5 (by decide) rfl ?_
    refine pv_aloadN_3 (pc := 6) dX11_element_6 ?_
    refine pv_ifnonnullN (pc := 7) dX11_element_7 ?_
    refine pv_lconst (pc := 10) (v := 0) dX11_element_10 (by decide) ?_
    refine pv_goto (pc := 11) (tgt := 19) dX11_element_11 (by decide) ?_
    refine pv_lret (pc := 19) dX11_element_19 rfl ?_
    refine qX.same hX ?_; unfold S_element; rw [if_neg (fun q => by rw [hs0] at q; exact absurd q.1 (by decide))]

set_option maxRecDepth 100000 in
set_option maxHeartbeats 4000000 in
theorem c_X11_holds {G : pv_G} {d : Nat} {J : pv_I} {K : pv_L} {s : Int32} {t : pv_T} {I : pv_I} {L : pv_L} {Rf : pv_R} (hW : WF J K) (hX : RX J K t I L Rf)  (hd : 60 ≤ d) : pv_Mt G mX11_holds d 0 0 [.ref 16, .int s] t I L Rf (qX (S_holds J K s) I L) := by
  refine pv_mt mgX11_holds.2.2.2.2.2 [.ref 16, .int s, .retAddr 0] rfl (Nat.le_of_ble_eq_true rfl) ?_
  have hT := hX.1
  have hR := hX.2.1
  obtain ⟨-, -, ⟨xp, xq, xn, xst, xsp, xsd, xc⟩, xf, xs, xb, xi⟩ := id hX
  by_cases hs : s_sh s = true
  · have hin := s_sh_in hs
    have hs8 : s.toNatClampNeg < 8 := (pv_in_lt hin).2.2.1
    have hkd := x_kind hW hX hs8
    refine pv_aload_0 (pc := 0) dX11_holds_0 ?_
    refine pv_iload_1 (pc := 1) dX11_holds_1 ?_
    refine pv_callV1 (pc := 2) dX11_holds_2 mgX11_shelfAt lv_X11_66_11 (by decide) (sx_16 hT) (by omega) (c_X11_shelfAt1 hT hR hin) rfl rfl (by decide) ?_
    refine pv_astore_2 (pc := 5) dX11_holds_5 (by decide) rfl ?_
    refine pv_aload_2 (pc := 6) dX11_holds_6 ?_
    refine pv_ifnonnull (pc := 7) (tgt := 12) dX11_holds_7 (by decide) ?_
    refine pv_aload_2 (pc := 12) dX11_holds_12 ?_
    refine pv_callV1 (pc := 13) dX11_holds_13 mgX8_isRow lv_X11_122_8 (by omega) (sx_sh hT hs8) (by omega) (c_X8_isRow hT hR hs8) rfl rfl (by decide) ?_
    refine pv_if_eq (pc := 16) (tgt := 29) dX11_holds_16 (by decide) (fun h16 => ?_) (fun h16 => ?_)
    · refine pv_aload_2 (pc := 29) dX11_holds_29 ?_
      refine pv_getI (pc := 30) dX11_holds_30 fg_X11_126_8 rfl (by omega) (sx_sh hT hs8) ?_
      refine pv_iret (pc := 33) dX11_holds_33 rfl rfl ?_
      refine qX.same hX ?_
      unfold S_holds w_sh
      rw [if_pos hs]
      rcases hkd with ⟨k1, k2, k3, k4⟩ | ⟨k1, k2, k3, k4, k5, k6, k7⟩ | ⟨k1, k2, k3, k4, k5⟩
      · first
          | (have f1 := h16; rw [k2] at f1; exact absurd f1 (by decide))
          | (rw [k1, if_pos rfl, k4])
      · first
          | (have f1 := h16; rw [k2, decide_eq_false k5] at f1; exact absurd f1 (by decide))
          | (rw [k1, if_neg (by decide), if_pos rfl, k2])
      · first
          | (have f1 := h16; rw [k2] at f1; exact absurd f1 (by decide))
          | (rw [k1, if_neg (by decide), if_neg (by decide), k4])
    · refine pv_bipush (pc := 19) (v := 100) dX11_holds_19 (by decide) ?_
      refine pv_aload_2 (pc := 21) dX11_holds_21 ?_
      refine pv_getI (pc := 22) dX11_holds_22 fg_X11_93_8 rfl (by omega) (sx_sh hT hs8) ?_
      refine pv_iadd (pc := 25) dX11_holds_25 ?_
      refine pv_goto (pc := 26) (tgt := 33) dX11_holds_26 (by decide) ?_
      refine pv_iret (pc := 33) dX11_holds_33 rfl rfl ?_
      refine qX.same hX ?_
      unfold S_holds w_sh
      rw [if_pos hs]
      rcases hkd with ⟨k1, k2, k3, k4⟩ | ⟨k1, k2, k3, k4, k5, k6, k7⟩ | ⟨k1, k2, k3, k4, k5⟩
      · first
          | (have f1 := h16; rw [k2] at f1; exact absurd f1 (by decide))
          | (rw [k1, if_pos rfl, k4])
      · first
          | (have f1 := h16; rw [k2, decide_eq_false k5] at f1; exact absurd f1 (by decide))
          | (rw [k1, if_neg (by decide), if_pos rfl, k2])
      · first
          | (have f1 := h16; rw [k2] at f1; exact absurd f1 (by decide))
          | (rw [k1, if_neg (by decide), if_neg (by decide), k4])
  · have hs0 : s_sh s = false := by simpa using hs
    refine pv_aload_0 (pc := 0) dX11_holds_0 ?_
    refine pv_iload_1 (pc := 1) dX11_holds_1 ?_
    refine pv_callV1 (pc := 2) dX11_holds_2 mgX11_shelfAt lv_X11_66_11 (by decide) (sx_16 hT) (by omega) (c_X11_shelfAt0 hT hR hs0) rfl rfl (by decide) ?_
    refine pv_astoreN_2 (pc := 5) dX11_holds_5 (by decide) rfl ?_
    refine pv_aloadN_2 (pc := 6) dX11_holds_6 ?_
    refine pv_ifnonnullN (pc := 7) dX11_holds_7 ?_
    refine pv_iconst (pc := 10) (v := (-1)) dX11_holds_10 (by decide) ?_
    refine pv_iret (pc := 11) dX11_holds_11 rfl rfl ?_
    refine qX.same hX ?_; unfold S_holds; rw [if_neg (by rw [hs0]; decide)]

theorem fcls_c (k : Int32) : fcls k = 0 ∨ fcls k = 1 ∨ fcls k = 3 ∨ fcls k = 5 ∨ fcls k = 6 ∨ fcls k = 9 ∨ fcls k = 10 := by
  unfold fcls
  split
  · simp
  · split
    · simp
    · split
      · simp
      · split
        · simp
        · split
          · simp
          · split <;> simp
/-- what kind each class is -/
theorem fcls_k {k : Int32} (h : 0 ≤ k.toInt ∧ k.toInt ≤ 6) : (k = 0 ∧ fcls k = 3) ∨ (k = 1 ∧ fcls k = 1) ∨ (k = 2 ∧ fcls k = 10) ∨ (k = 3 ∧ fcls k = 5) ∨ (k = 4 ∧ fcls k = 9) ∨ (k = 5 ∧ fcls k = 0) ∨ (k = 6 ∧ fcls k = 6) := by
  have h2 : k.toInt = 0 ∨ k.toInt = 1 ∨ k.toInt = 2 ∨ k.toInt = 3 ∨ k.toInt = 4 ∨ k.toInt = 5 ∨ k.toInt = 6 := by omega
  rcases h2 with q | q | q | q | q | q | q
  · have e : k = 0 := by rw [← Int32.toInt_inj, q]; decide
    subst e; exact Or.inl ⟨rfl, by decide⟩
  · have e : k = 1 := by rw [← Int32.toInt_inj, q]; decide
    subst e; exact Or.inr (Or.inl ⟨rfl, by decide⟩)
  · have e : k = 2 := by rw [← Int32.toInt_inj, q]; decide
    subst e; exact Or.inr (Or.inr (Or.inl ⟨rfl, by decide⟩))
  · have e : k = 3 := by rw [← Int32.toInt_inj, q]; decide
    subst e; exact Or.inr (Or.inr (Or.inr (Or.inl ⟨rfl, by decide⟩)))
  · have e : k = 4 := by rw [← Int32.toInt_inj, q]; decide
    subst e; exact Or.inr (Or.inr (Or.inr (Or.inr (Or.inl ⟨rfl, by decide⟩))))
  · have e : k = 5 := by rw [← Int32.toInt_inj, q]; decide
    subst e; exact Or.inr (Or.inr (Or.inr (Or.inr (Or.inr (Or.inl ⟨rfl, by decide⟩)))))
  · have e : k = 6 := by rw [← Int32.toInt_inj, q]; decide
    subst e; exact Or.inr (Or.inr (Or.inr (Or.inr (Or.inr (Or.inr ⟨rfl, by decide⟩)))))
set_option maxRecDepth 100000 in
set_option maxHeartbeats 4000000 in
theorem c_X11_figureOf {G : pv_G} {d : Nat} {J : pv_I} {K : pv_L} {f x1 : Int32} {t : pv_T} {I : pv_I} {L : pv_L} {Rf : pv_R} (hW : WF J K) (hX : RX J K t I L Rf)  (hd : 60 ≤ d) : pv_Mt G mX11_figureOf d 0 0 [.ref 16, .int f, .int x1] t I L Rf (qX (S_figureOf J K f x1) I L) := by
  refine pv_mt mgX11_figureOf.2.2.2.2.2 [.ref 16, .int f, .int x1, .retAddr 0] rfl (Nat.le_of_ble_eq_true rfl) ?_
  have hT := hX.1
  have hR := hX.2.1
  obtain ⟨-, -, ⟨xp, xq, xn, xst, xsp, xsd, xc⟩, xf, xs, xb, xi⟩ := id hX
  by_cases hF : w_isF J f
  · skip
    obtain ⟨x, fx1, fx2, fx3, fx4, fx5, fx6, fx7, fx8, hfb⟩ := xf _ (hF.nat hW).2
    have hfk := fcls_k ((hW.2.1 _ (hF.nat hW).2).1)
    have hF8 := (hF.nat hW).1
    have hFc : f < I 21 3 := by rw [xn]; exact hF.2
    rcases hfk with ⟨kk, hfc⟩ | ⟨kk, hfc⟩ | ⟨kk, hfc⟩ | ⟨kk, hfc⟩ | ⟨kk, hfc⟩ | ⟨kk, hfc⟩ | ⟨kk, hfc⟩
    all_goals rw [hfc] at fx4
    all_goals have hfs := fx4
    · skip
      refine pv_aload_0 (pc := 0) dX11_figureOf_0 ?_
      refine pv_aload_0 (pc := 1) dX11_figureOf_1 ?_
      refine pv_getR (pc := 2) dX11_figureOf_2 fg_X11_31_11 rfl (by decide) (sx_16 hT) (rx_16_4 hR) ?_
      refine pv_iload_1 (pc := 5) dX11_figureOf_5 ?_
      refine pv_callV1 (pc := 6) dX11_figureOf_6 mgX11_figureAt lv_X11_114_11 (by decide) (sx_16 hT) (by omega) (c_X11_figureAt1 hT hR (by decide) (sx_21 hT) hF8 hFc fx1) rfl rfl (by decide) ?_
      refine pv_astore_3 (pc := 9) dX11_figureOf_9 (by decide) rfl ?_
      refine pv_aload_3 (pc := 10) dX11_figureOf_10 ?_
      refine pv_ifnull (pc := 11) dX11_figureOf_11 ?_
      refine pv_iload_2 (pc := 14) dX11_figureOf_14 ?_
      refine pv_if_lt (pc := 15) (tgt := 23) dX11_figureOf_15 (by decide) (fun h15 => ?_) (fun h15 => ?_)
      · refine pv_aload_0 (pc := 23) dX11_figureOf_23 ?_
        refine pv_iconst (pc := 24) (v := 5) dX11_figureOf_24 (by decide) ?_
        refine pv_callV1 (pc := 25) dX11_figureOf_25 mgX11_refuse lv_X11_70_11 (by decide) (sx_16 hT) (by omega) (c_X11_refuse (k := 5) hT hR (by decide) (by unfold vp_in; decide)) rfl rfl (by decide) ?_
        refine pv_iret (pc := 28) dX11_figureOf_28 rfl rfl ?_
        refine qX.ref hX k_lt5b ?_
        unfold S_figureOf
        rw [if_neg]
        rintro ⟨_, _, g3, g4⟩
        first
          | (have f1 := h15; rw [i_le] at g3; rw [i_lt] at f1; omega)
          | (have f1 := h20; rw [i_le] at g4; rw [i_lt] at f1; omega)
      · refine pv_iload_2 (pc := 18) dX11_figureOf_18 ?_
        refine pv_iconst (pc := 19) (v := 2) dX11_figureOf_19 (by decide) ?_
        refine pv_icmp_le (pc := 20) (tgt := 29) dX11_figureOf_20 (by decide) (fun h20 => ?_) (fun h20 => ?_)
        · refine pv_iload_2 (pc := 29) dX11_figureOf_29 ?_
          refine pv_if_ne (pc := 30) (tgt := 38) dX11_figureOf_30 (by decide) (fun h30 => ?_) (fun h30 => ?_)
          · refine pv_iload_2 (pc := 38) dX11_figureOf_38 ?_
            refine pv_iconst (pc := 39) (v := 1) dX11_figureOf_39 (by decide) ?_
            refine pv_icmp_ne (pc := 40) (tgt := 50) dX11_figureOf_40 (by decide) (fun h40 => ?_) (fun h40 => ?_)
            · refine pv_aload_3 (pc := 50) dX11_figureOf_50 ?_
              refine pv_getI (pc := 51) dX11_figureOf_51 fg_X11_138_3 rfl (by omega) hfs ?_
              refine pv_iret (pc := 54) dX11_figureOf_54 rfl rfl ?_
              have hx2 : ¬ x1 < 0 ∧ ¬ 2 < x1 := ⟨h15, h20⟩
              refine qX.same hX ?_
              unfold S_figureOf
              rw [if_pos ⟨hF.1, hF.2, by have f1 := h15; rw [i_lt] at f1; rw [i_le]; omega, by have f1 := h20; rw [i_lt] at f1; rw [i_le]; omega⟩]
              first
                | (have f1 := h30; rw [if_pos (by first | exact f1 | exact Classical.not_not.mp f1), fx5]; done)
                | (have f1 := h30; have f2 := h40; rw [if_neg f1, if_pos (by first | exact f2 | exact Classical.not_not.mp f2), fx7]; done)
                | (have f1 := h30; have f2 := h40; rw [if_neg f1, if_neg f2, fx8]; done)
            · refine pv_aload_3 (pc := 43) dX11_figureOf_43 ?_
              refine pv_getI (pc := 44) dX11_figureOf_44 fg_X11_158_3 rfl (by omega) hfs ?_
              refine pv_goto (pc := 47) (tgt := 54) dX11_figureOf_47 (by decide) ?_
              refine pv_iret (pc := 54) dX11_figureOf_54 rfl rfl ?_
              have hx2 : ¬ x1 < 0 ∧ ¬ 2 < x1 := ⟨h15, h20⟩
              refine qX.same hX ?_
              unfold S_figureOf
              rw [if_pos ⟨hF.1, hF.2, by have f1 := h15; rw [i_lt] at f1; rw [i_le]; omega, by have f1 := h20; rw [i_lt] at f1; rw [i_le]; omega⟩]
              first
                | (have f1 := h30; rw [if_pos (by first | exact f1 | exact Classical.not_not.mp f1), fx5]; done)
                | (have f1 := h30; have f2 := h40; rw [if_neg f1, if_pos (by first | exact f2 | exact Classical.not_not.mp f2), fx7]; done)
                | (have f1 := h30; have f2 := h40; rw [if_neg f1, if_neg f2, fx8]; done)
          · refine pv_aload_3 (pc := 33) dX11_figureOf_33 ?_
            refine pv_getI (pc := 34) dX11_figureOf_34 fg_X11_132_3 rfl (by omega) hfs ?_
            refine pv_iret (pc := 37) dX11_figureOf_37 rfl rfl ?_
            have hx2 : ¬ x1 < 0 ∧ ¬ 2 < x1 := ⟨h15, h20⟩
            refine qX.same hX ?_
            unfold S_figureOf
            rw [if_pos ⟨hF.1, hF.2, by have f1 := h15; rw [i_lt] at f1; rw [i_le]; omega, by have f1 := h20; rw [i_lt] at f1; rw [i_le]; omega⟩]
            first
              | (have f1 := h30; rw [if_pos (by first | exact f1 | exact Classical.not_not.mp f1), fx5]; done)
              | (have f1 := h30; have f2 := h40; rw [if_neg f1, if_pos (by first | exact f2 | exact Classical.not_not.mp f2), fx7]; done)
              | (have f1 := h30; have f2 := h40; rw [if_neg f1, if_neg f2, fx8]; done)
        · refine pv_aload_0 (pc := 23) dX11_figureOf_23 ?_
          refine pv_iconst (pc := 24) (v := 5) dX11_figureOf_24 (by decide) ?_
          refine pv_callV1 (pc := 25) dX11_figureOf_25 mgX11_refuse lv_X11_70_11 (by decide) (sx_16 hT) (by omega) (c_X11_refuse (k := 5) hT hR (by decide) (by unfold vp_in; decide)) rfl rfl (by decide) ?_
          refine pv_iret (pc := 28) dX11_figureOf_28 rfl rfl ?_
          refine qX.ref hX k_lt5b ?_
          unfold S_figureOf
          rw [if_neg]
          rintro ⟨_, _, g3, g4⟩
          first
            | (have f1 := h15; rw [i_le] at g3; rw [i_lt] at f1; omega)
            | (have f1 := h20; rw [i_le] at g4; rw [i_lt] at f1; omega)
    · skip
      refine pv_aload_0 (pc := 0) dX11_figureOf_0 ?_
      refine pv_aload_0 (pc := 1) dX11_figureOf_1 ?_
      refine pv_getR (pc := 2) dX11_figureOf_2 fg_X11_31_11 rfl (by decide) (sx_16 hT) (rx_16_4 hR) ?_
      refine pv_iload_1 (pc := 5) dX11_figureOf_5 ?_
      refine pv_callV1 (pc := 6) dX11_figureOf_6 mgX11_figureAt lv_X11_114_11 (by decide) (sx_16 hT) (by omega) (c_X11_figureAt1 hT hR (by decide) (sx_21 hT) hF8 hFc fx1) rfl rfl (by decide) ?_
      refine pv_astore_3 (pc := 9) dX11_figureOf_9 (by decide) rfl ?_
      refine pv_aload_3 (pc := 10) dX11_figureOf_10 ?_
      refine pv_ifnull (pc := 11) dX11_figureOf_11 ?_
      refine pv_iload_2 (pc := 14) dX11_figureOf_14 ?_
      refine pv_if_lt (pc := 15) (tgt := 23) dX11_figureOf_15 (by decide) (fun h15 => ?_) (fun h15 => ?_)
      · refine pv_aload_0 (pc := 23) dX11_figureOf_23 ?_
        refine pv_iconst (pc := 24) (v := 5) dX11_figureOf_24 (by decide) ?_
        refine pv_callV1 (pc := 25) dX11_figureOf_25 mgX11_refuse lv_X11_70_11 (by decide) (sx_16 hT) (by omega) (c_X11_refuse (k := 5) hT hR (by decide) (by unfold vp_in; decide)) rfl rfl (by decide) ?_
        refine pv_iret (pc := 28) dX11_figureOf_28 rfl rfl ?_
        refine qX.ref hX k_lt5b ?_
        unfold S_figureOf
        rw [if_neg]
        rintro ⟨_, _, g3, g4⟩
        first
          | (have f1 := h15; rw [i_le] at g3; rw [i_lt] at f1; omega)
          | (have f1 := h20; rw [i_le] at g4; rw [i_lt] at f1; omega)
      · refine pv_iload_2 (pc := 18) dX11_figureOf_18 ?_
        refine pv_iconst (pc := 19) (v := 2) dX11_figureOf_19 (by decide) ?_
        refine pv_icmp_le (pc := 20) (tgt := 29) dX11_figureOf_20 (by decide) (fun h20 => ?_) (fun h20 => ?_)
        · refine pv_iload_2 (pc := 29) dX11_figureOf_29 ?_
          refine pv_if_ne (pc := 30) (tgt := 38) dX11_figureOf_30 (by decide) (fun h30 => ?_) (fun h30 => ?_)
          · refine pv_iload_2 (pc := 38) dX11_figureOf_38 ?_
            refine pv_iconst (pc := 39) (v := 1) dX11_figureOf_39 (by decide) ?_
            refine pv_icmp_ne (pc := 40) (tgt := 50) dX11_figureOf_40 (by decide) (fun h40 => ?_) (fun h40 => ?_)
            · refine pv_aload_3 (pc := 50) dX11_figureOf_50 ?_
              refine pv_getI (pc := 51) dX11_figureOf_51 fg_X11_138_1 rfl (by omega) hfs ?_
              refine pv_iret (pc := 54) dX11_figureOf_54 rfl rfl ?_
              have hx2 : ¬ x1 < 0 ∧ ¬ 2 < x1 := ⟨h15, h20⟩
              refine qX.same hX ?_
              unfold S_figureOf
              rw [if_pos ⟨hF.1, hF.2, by have f1 := h15; rw [i_lt] at f1; rw [i_le]; omega, by have f1 := h20; rw [i_lt] at f1; rw [i_le]; omega⟩]
              first
                | (have f1 := h30; rw [if_pos (by first | exact f1 | exact Classical.not_not.mp f1), fx5]; done)
                | (have f1 := h30; have f2 := h40; rw [if_neg f1, if_pos (by first | exact f2 | exact Classical.not_not.mp f2), fx7]; done)
                | (have f1 := h30; have f2 := h40; rw [if_neg f1, if_neg f2, fx8]; done)
            · refine pv_aload_3 (pc := 43) dX11_figureOf_43 ?_
              refine pv_getI (pc := 44) dX11_figureOf_44 fg_X11_158_1 rfl (by omega) hfs ?_
              refine pv_goto (pc := 47) (tgt := 54) dX11_figureOf_47 (by decide) ?_
              refine pv_iret (pc := 54) dX11_figureOf_54 rfl rfl ?_
              have hx2 : ¬ x1 < 0 ∧ ¬ 2 < x1 := ⟨h15, h20⟩
              refine qX.same hX ?_
              unfold S_figureOf
              rw [if_pos ⟨hF.1, hF.2, by have f1 := h15; rw [i_lt] at f1; rw [i_le]; omega, by have f1 := h20; rw [i_lt] at f1; rw [i_le]; omega⟩]
              first
                | (have f1 := h30; rw [if_pos (by first | exact f1 | exact Classical.not_not.mp f1), fx5]; done)
                | (have f1 := h30; have f2 := h40; rw [if_neg f1, if_pos (by first | exact f2 | exact Classical.not_not.mp f2), fx7]; done)
                | (have f1 := h30; have f2 := h40; rw [if_neg f1, if_neg f2, fx8]; done)
          · refine pv_aload_3 (pc := 33) dX11_figureOf_33 ?_
            refine pv_getI (pc := 34) dX11_figureOf_34 fg_X11_132_1 rfl (by omega) hfs ?_
            refine pv_iret (pc := 37) dX11_figureOf_37 rfl rfl ?_
            have hx2 : ¬ x1 < 0 ∧ ¬ 2 < x1 := ⟨h15, h20⟩
            refine qX.same hX ?_
            unfold S_figureOf
            rw [if_pos ⟨hF.1, hF.2, by have f1 := h15; rw [i_lt] at f1; rw [i_le]; omega, by have f1 := h20; rw [i_lt] at f1; rw [i_le]; omega⟩]
            first
              | (have f1 := h30; rw [if_pos (by first | exact f1 | exact Classical.not_not.mp f1), fx5]; done)
              | (have f1 := h30; have f2 := h40; rw [if_neg f1, if_pos (by first | exact f2 | exact Classical.not_not.mp f2), fx7]; done)
              | (have f1 := h30; have f2 := h40; rw [if_neg f1, if_neg f2, fx8]; done)
        · refine pv_aload_0 (pc := 23) dX11_figureOf_23 ?_
          refine pv_iconst (pc := 24) (v := 5) dX11_figureOf_24 (by decide) ?_
          refine pv_callV1 (pc := 25) dX11_figureOf_25 mgX11_refuse lv_X11_70_11 (by decide) (sx_16 hT) (by omega) (c_X11_refuse (k := 5) hT hR (by decide) (by unfold vp_in; decide)) rfl rfl (by decide) ?_
          refine pv_iret (pc := 28) dX11_figureOf_28 rfl rfl ?_
          refine qX.ref hX k_lt5b ?_
          unfold S_figureOf
          rw [if_neg]
          rintro ⟨_, _, g3, g4⟩
          first
            | (have f1 := h15; rw [i_le] at g3; rw [i_lt] at f1; omega)
            | (have f1 := h20; rw [i_le] at g4; rw [i_lt] at f1; omega)
    · skip
      refine pv_aload_0 (pc := 0) dX11_figureOf_0 ?_
      refine pv_aload_0 (pc := 1) dX11_figureOf_1 ?_
      refine pv_getR (pc := 2) dX11_figureOf_2 fg_X11_31_11 rfl (by decide) (sx_16 hT) (rx_16_4 hR) ?_
      refine pv_iload_1 (pc := 5) dX11_figureOf_5 ?_
      refine pv_callV1 (pc := 6) dX11_figureOf_6 mgX11_figureAt lv_X11_114_11 (by decide) (sx_16 hT) (by omega) (c_X11_figureAt1 hT hR (by decide) (sx_21 hT) hF8 hFc fx1) rfl rfl (by decide) ?_
      refine pv_astore_3 (pc := 9) dX11_figureOf_9 (by decide) rfl ?_
      refine pv_aload_3 (pc := 10) dX11_figureOf_10 ?_
      refine pv_ifnull (pc := 11) dX11_figureOf_11 ?_
      refine pv_iload_2 (pc := 14) dX11_figureOf_14 ?_
      refine pv_if_lt (pc := 15) (tgt := 23) dX11_figureOf_15 (by decide) (fun h15 => ?_) (fun h15 => ?_)
      · refine pv_aload_0 (pc := 23) dX11_figureOf_23 ?_
        refine pv_iconst (pc := 24) (v := 5) dX11_figureOf_24 (by decide) ?_
        refine pv_callV1 (pc := 25) dX11_figureOf_25 mgX11_refuse lv_X11_70_11 (by decide) (sx_16 hT) (by omega) (c_X11_refuse (k := 5) hT hR (by decide) (by unfold vp_in; decide)) rfl rfl (by decide) ?_
        refine pv_iret (pc := 28) dX11_figureOf_28 rfl rfl ?_
        refine qX.ref hX k_lt5b ?_
        unfold S_figureOf
        rw [if_neg]
        rintro ⟨_, _, g3, g4⟩
        first
          | (have f1 := h15; rw [i_le] at g3; rw [i_lt] at f1; omega)
          | (have f1 := h20; rw [i_le] at g4; rw [i_lt] at f1; omega)
      · refine pv_iload_2 (pc := 18) dX11_figureOf_18 ?_
        refine pv_iconst (pc := 19) (v := 2) dX11_figureOf_19 (by decide) ?_
        refine pv_icmp_le (pc := 20) (tgt := 29) dX11_figureOf_20 (by decide) (fun h20 => ?_) (fun h20 => ?_)
        · refine pv_iload_2 (pc := 29) dX11_figureOf_29 ?_
          refine pv_if_ne (pc := 30) (tgt := 38) dX11_figureOf_30 (by decide) (fun h30 => ?_) (fun h30 => ?_)
          · refine pv_iload_2 (pc := 38) dX11_figureOf_38 ?_
            refine pv_iconst (pc := 39) (v := 1) dX11_figureOf_39 (by decide) ?_
            refine pv_icmp_ne (pc := 40) (tgt := 50) dX11_figureOf_40 (by decide) (fun h40 => ?_) (fun h40 => ?_)
            · refine pv_aload_3 (pc := 50) dX11_figureOf_50 ?_
              refine pv_getI (pc := 51) dX11_figureOf_51 fg_X11_138_10 rfl (by omega) hfs ?_
              refine pv_iret (pc := 54) dX11_figureOf_54 rfl rfl ?_
              have hx2 : ¬ x1 < 0 ∧ ¬ 2 < x1 := ⟨h15, h20⟩
              refine qX.same hX ?_
              unfold S_figureOf
              rw [if_pos ⟨hF.1, hF.2, by have f1 := h15; rw [i_lt] at f1; rw [i_le]; omega, by have f1 := h20; rw [i_lt] at f1; rw [i_le]; omega⟩]
              first
                | (have f1 := h30; rw [if_pos (by first | exact f1 | exact Classical.not_not.mp f1), fx5]; done)
                | (have f1 := h30; have f2 := h40; rw [if_neg f1, if_pos (by first | exact f2 | exact Classical.not_not.mp f2), fx7]; done)
                | (have f1 := h30; have f2 := h40; rw [if_neg f1, if_neg f2, fx8]; done)
            · refine pv_aload_3 (pc := 43) dX11_figureOf_43 ?_
              refine pv_getI (pc := 44) dX11_figureOf_44 fg_X11_158_10 rfl (by omega) hfs ?_
              refine pv_goto (pc := 47) (tgt := 54) dX11_figureOf_47 (by decide) ?_
              refine pv_iret (pc := 54) dX11_figureOf_54 rfl rfl ?_
              have hx2 : ¬ x1 < 0 ∧ ¬ 2 < x1 := ⟨h15, h20⟩
              refine qX.same hX ?_
              unfold S_figureOf
              rw [if_pos ⟨hF.1, hF.2, by have f1 := h15; rw [i_lt] at f1; rw [i_le]; omega, by have f1 := h20; rw [i_lt] at f1; rw [i_le]; omega⟩]
              first
                | (have f1 := h30; rw [if_pos (by first | exact f1 | exact Classical.not_not.mp f1), fx5]; done)
                | (have f1 := h30; have f2 := h40; rw [if_neg f1, if_pos (by first | exact f2 | exact Classical.not_not.mp f2), fx7]; done)
                | (have f1 := h30; have f2 := h40; rw [if_neg f1, if_neg f2, fx8]; done)
          · refine pv_aload_3 (pc := 33) dX11_figureOf_33 ?_
            refine pv_getI (pc := 34) dX11_figureOf_34 fg_X11_132_10 rfl (by omega) hfs ?_
            refine pv_iret (pc := 37) dX11_figureOf_37 rfl rfl ?_
            have hx2 : ¬ x1 < 0 ∧ ¬ 2 < x1 := ⟨h15, h20⟩
            refine qX.same hX ?_
            unfold S_figureOf
            rw [if_pos ⟨hF.1, hF.2, by have f1 := h15; rw [i_lt] at f1; rw [i_le]; omega, by have f1 := h20; rw [i_lt] at f1; rw [i_le]; omega⟩]
            first
              | (have f1 := h30; rw [if_pos (by first | exact f1 | exact Classical.not_not.mp f1), fx5]; done)
              | (have f1 := h30; have f2 := h40; rw [if_neg f1, if_pos (by first | exact f2 | exact Classical.not_not.mp f2), fx7]; done)
              | (have f1 := h30; have f2 := h40; rw [if_neg f1, if_neg f2, fx8]; done)
        · refine pv_aload_0 (pc := 23) dX11_figureOf_23 ?_
          refine pv_iconst (pc := 24) (v := 5) dX11_figureOf_24 (by decide) ?_
          refine pv_callV1 (pc := 25) dX11_figureOf_25 mgX11_refuse lv_X11_70_11 (by decide) (sx_16 hT) (by omega) (c_X11_refuse (k := 5) hT hR (by decide) (by unfold vp_in; decide)) rfl rfl (by decide) ?_
          refine pv_iret (pc := 28) dX11_figureOf_28 rfl rfl ?_
          refine qX.ref hX k_lt5b ?_
          unfold S_figureOf
          rw [if_neg]
          rintro ⟨_, _, g3, g4⟩
          first
            | (have f1 := h15; rw [i_le] at g3; rw [i_lt] at f1; omega)
            | (have f1 := h20; rw [i_le] at g4; rw [i_lt] at f1; omega)
    · skip
      refine pv_aload_0 (pc := 0) dX11_figureOf_0 ?_
      refine pv_aload_0 (pc := 1) dX11_figureOf_1 ?_
      refine pv_getR (pc := 2) dX11_figureOf_2 fg_X11_31_11 rfl (by decide) (sx_16 hT) (rx_16_4 hR) ?_
      refine pv_iload_1 (pc := 5) dX11_figureOf_5 ?_
      refine pv_callV1 (pc := 6) dX11_figureOf_6 mgX11_figureAt lv_X11_114_11 (by decide) (sx_16 hT) (by omega) (c_X11_figureAt1 hT hR (by decide) (sx_21 hT) hF8 hFc fx1) rfl rfl (by decide) ?_
      refine pv_astore_3 (pc := 9) dX11_figureOf_9 (by decide) rfl ?_
      refine pv_aload_3 (pc := 10) dX11_figureOf_10 ?_
      refine pv_ifnull (pc := 11) dX11_figureOf_11 ?_
      refine pv_iload_2 (pc := 14) dX11_figureOf_14 ?_
      refine pv_if_lt (pc := 15) (tgt := 23) dX11_figureOf_15 (by decide) (fun h15 => ?_) (fun h15 => ?_)
      · refine pv_aload_0 (pc := 23) dX11_figureOf_23 ?_
        refine pv_iconst (pc := 24) (v := 5) dX11_figureOf_24 (by decide) ?_
        refine pv_callV1 (pc := 25) dX11_figureOf_25 mgX11_refuse lv_X11_70_11 (by decide) (sx_16 hT) (by omega) (c_X11_refuse (k := 5) hT hR (by decide) (by unfold vp_in; decide)) rfl rfl (by decide) ?_
        refine pv_iret (pc := 28) dX11_figureOf_28 rfl rfl ?_
        refine qX.ref hX k_lt5b ?_
        unfold S_figureOf
        rw [if_neg]
        rintro ⟨_, _, g3, g4⟩
        first
          | (have f1 := h15; rw [i_le] at g3; rw [i_lt] at f1; omega)
          | (have f1 := h20; rw [i_le] at g4; rw [i_lt] at f1; omega)
      · refine pv_iload_2 (pc := 18) dX11_figureOf_18 ?_
        refine pv_iconst (pc := 19) (v := 2) dX11_figureOf_19 (by decide) ?_
        refine pv_icmp_le (pc := 20) (tgt := 29) dX11_figureOf_20 (by decide) (fun h20 => ?_) (fun h20 => ?_)
        · refine pv_iload_2 (pc := 29) dX11_figureOf_29 ?_
          refine pv_if_ne (pc := 30) (tgt := 38) dX11_figureOf_30 (by decide) (fun h30 => ?_) (fun h30 => ?_)
          · refine pv_iload_2 (pc := 38) dX11_figureOf_38 ?_
            refine pv_iconst (pc := 39) (v := 1) dX11_figureOf_39 (by decide) ?_
            refine pv_icmp_ne (pc := 40) (tgt := 50) dX11_figureOf_40 (by decide) (fun h40 => ?_) (fun h40 => ?_)
            · refine pv_aload_3 (pc := 50) dX11_figureOf_50 ?_
              refine pv_getI (pc := 51) dX11_figureOf_51 fg_X11_138_5 rfl (by omega) hfs ?_
              refine pv_iret (pc := 54) dX11_figureOf_54 rfl rfl ?_
              have hx2 : ¬ x1 < 0 ∧ ¬ 2 < x1 := ⟨h15, h20⟩
              refine qX.same hX ?_
              unfold S_figureOf
              rw [if_pos ⟨hF.1, hF.2, by have f1 := h15; rw [i_lt] at f1; rw [i_le]; omega, by have f1 := h20; rw [i_lt] at f1; rw [i_le]; omega⟩]
              first
                | (have f1 := h30; rw [if_pos (by first | exact f1 | exact Classical.not_not.mp f1), fx5]; done)
                | (have f1 := h30; have f2 := h40; rw [if_neg f1, if_pos (by first | exact f2 | exact Classical.not_not.mp f2), fx7]; done)
                | (have f1 := h30; have f2 := h40; rw [if_neg f1, if_neg f2, fx8]; done)
            · refine pv_aload_3 (pc := 43) dX11_figureOf_43 ?_
              refine pv_getI (pc := 44) dX11_figureOf_44 fg_X11_158_5 rfl (by omega) hfs ?_
              refine pv_goto (pc := 47) (tgt := 54) dX11_figureOf_47 (by decide) ?_
              refine pv_iret (pc := 54) dX11_figureOf_54 rfl rfl ?_
              have hx2 : ¬ x1 < 0 ∧ ¬ 2 < x1 := ⟨h15, h20⟩
              refine qX.same hX ?_
              unfold S_figureOf
              rw [if_pos ⟨hF.1, hF.2, by have f1 := h15; rw [i_lt] at f1; rw [i_le]; omega, by have f1 := h20; rw [i_lt] at f1; rw [i_le]; omega⟩]
              first
                | (have f1 := h30; rw [if_pos (by first | exact f1 | exact Classical.not_not.mp f1), fx5]; done)
                | (have f1 := h30; have f2 := h40; rw [if_neg f1, if_pos (by first | exact f2 | exact Classical.not_not.mp f2), fx7]; done)
                | (have f1 := h30; have f2 := h40; rw [if_neg f1, if_neg f2, fx8]; done)
          · refine pv_aload_3 (pc := 33) dX11_figureOf_33 ?_
            refine pv_getI (pc := 34) dX11_figureOf_34 fg_X11_132_5 rfl (by omega) hfs ?_
            refine pv_iret (pc := 37) dX11_figureOf_37 rfl rfl ?_
            have hx2 : ¬ x1 < 0 ∧ ¬ 2 < x1 := ⟨h15, h20⟩
            refine qX.same hX ?_
            unfold S_figureOf
            rw [if_pos ⟨hF.1, hF.2, by have f1 := h15; rw [i_lt] at f1; rw [i_le]; omega, by have f1 := h20; rw [i_lt] at f1; rw [i_le]; omega⟩]
            first
              | (have f1 := h30; rw [if_pos (by first | exact f1 | exact Classical.not_not.mp f1), fx5]; done)
              | (have f1 := h30; have f2 := h40; rw [if_neg f1, if_pos (by first | exact f2 | exact Classical.not_not.mp f2), fx7]; done)
              | (have f1 := h30; have f2 := h40; rw [if_neg f1, if_neg f2, fx8]; done)
        · refine pv_aload_0 (pc := 23) dX11_figureOf_23 ?_
          refine pv_iconst (pc := 24) (v := 5) dX11_figureOf_24 (by decide) ?_
          refine pv_callV1 (pc := 25) dX11_figureOf_25 mgX11_refuse lv_X11_70_11 (by decide) (sx_16 hT) (by omega) (c_X11_refuse (k := 5) hT hR (by decide) (by unfold vp_in; decide)) rfl rfl (by decide) ?_
          refine pv_iret (pc := 28) dX11_figureOf_28 rfl rfl ?_
          refine qX.ref hX k_lt5b ?_
          unfold S_figureOf
          rw [if_neg]
          rintro ⟨_, _, g3, g4⟩
          first
            | (have f1 := h15; rw [i_le] at g3; rw [i_lt] at f1; omega)
            | (have f1 := h20; rw [i_le] at g4; rw [i_lt] at f1; omega)
    · skip
      refine pv_aload_0 (pc := 0) dX11_figureOf_0 ?_
      refine pv_aload_0 (pc := 1) dX11_figureOf_1 ?_
      refine pv_getR (pc := 2) dX11_figureOf_2 fg_X11_31_11 rfl (by decide) (sx_16 hT) (rx_16_4 hR) ?_
      refine pv_iload_1 (pc := 5) dX11_figureOf_5 ?_
      refine pv_callV1 (pc := 6) dX11_figureOf_6 mgX11_figureAt lv_X11_114_11 (by decide) (sx_16 hT) (by omega) (c_X11_figureAt1 hT hR (by decide) (sx_21 hT) hF8 hFc fx1) rfl rfl (by decide) ?_
      refine pv_astore_3 (pc := 9) dX11_figureOf_9 (by decide) rfl ?_
      refine pv_aload_3 (pc := 10) dX11_figureOf_10 ?_
      refine pv_ifnull (pc := 11) dX11_figureOf_11 ?_
      refine pv_iload_2 (pc := 14) dX11_figureOf_14 ?_
      refine pv_if_lt (pc := 15) (tgt := 23) dX11_figureOf_15 (by decide) (fun h15 => ?_) (fun h15 => ?_)
      · refine pv_aload_0 (pc := 23) dX11_figureOf_23 ?_
        refine pv_iconst (pc := 24) (v := 5) dX11_figureOf_24 (by decide) ?_
        refine pv_callV1 (pc := 25) dX11_figureOf_25 mgX11_refuse lv_X11_70_11 (by decide) (sx_16 hT) (by omega) (c_X11_refuse (k := 5) hT hR (by decide) (by unfold vp_in; decide)) rfl rfl (by decide) ?_
        refine pv_iret (pc := 28) dX11_figureOf_28 rfl rfl ?_
        refine qX.ref hX k_lt5b ?_
        unfold S_figureOf
        rw [if_neg]
        rintro ⟨_, _, g3, g4⟩
        first
          | (have f1 := h15; rw [i_le] at g3; rw [i_lt] at f1; omega)
          | (have f1 := h20; rw [i_le] at g4; rw [i_lt] at f1; omega)
      · refine pv_iload_2 (pc := 18) dX11_figureOf_18 ?_
        refine pv_iconst (pc := 19) (v := 2) dX11_figureOf_19 (by decide) ?_
        refine pv_icmp_le (pc := 20) (tgt := 29) dX11_figureOf_20 (by decide) (fun h20 => ?_) (fun h20 => ?_)
        · refine pv_iload_2 (pc := 29) dX11_figureOf_29 ?_
          refine pv_if_ne (pc := 30) (tgt := 38) dX11_figureOf_30 (by decide) (fun h30 => ?_) (fun h30 => ?_)
          · refine pv_iload_2 (pc := 38) dX11_figureOf_38 ?_
            refine pv_iconst (pc := 39) (v := 1) dX11_figureOf_39 (by decide) ?_
            refine pv_icmp_ne (pc := 40) (tgt := 50) dX11_figureOf_40 (by decide) (fun h40 => ?_) (fun h40 => ?_)
            · refine pv_aload_3 (pc := 50) dX11_figureOf_50 ?_
              refine pv_getI (pc := 51) dX11_figureOf_51 fg_X11_138_9 rfl (by omega) hfs ?_
              refine pv_iret (pc := 54) dX11_figureOf_54 rfl rfl ?_
              have hx2 : ¬ x1 < 0 ∧ ¬ 2 < x1 := ⟨h15, h20⟩
              refine qX.same hX ?_
              unfold S_figureOf
              rw [if_pos ⟨hF.1, hF.2, by have f1 := h15; rw [i_lt] at f1; rw [i_le]; omega, by have f1 := h20; rw [i_lt] at f1; rw [i_le]; omega⟩]
              first
                | (have f1 := h30; rw [if_pos (by first | exact f1 | exact Classical.not_not.mp f1), fx5]; done)
                | (have f1 := h30; have f2 := h40; rw [if_neg f1, if_pos (by first | exact f2 | exact Classical.not_not.mp f2), fx7]; done)
                | (have f1 := h30; have f2 := h40; rw [if_neg f1, if_neg f2, fx8]; done)
            · refine pv_aload_3 (pc := 43) dX11_figureOf_43 ?_
              refine pv_getI (pc := 44) dX11_figureOf_44 fg_X11_158_9 rfl (by omega) hfs ?_
              refine pv_goto (pc := 47) (tgt := 54) dX11_figureOf_47 (by decide) ?_
              refine pv_iret (pc := 54) dX11_figureOf_54 rfl rfl ?_
              have hx2 : ¬ x1 < 0 ∧ ¬ 2 < x1 := ⟨h15, h20⟩
              refine qX.same hX ?_
              unfold S_figureOf
              rw [if_pos ⟨hF.1, hF.2, by have f1 := h15; rw [i_lt] at f1; rw [i_le]; omega, by have f1 := h20; rw [i_lt] at f1; rw [i_le]; omega⟩]
              first
                | (have f1 := h30; rw [if_pos (by first | exact f1 | exact Classical.not_not.mp f1), fx5]; done)
                | (have f1 := h30; have f2 := h40; rw [if_neg f1, if_pos (by first | exact f2 | exact Classical.not_not.mp f2), fx7]; done)
                | (have f1 := h30; have f2 := h40; rw [if_neg f1, if_neg f2, fx8]; done)
          · refine pv_aload_3 (pc := 33) dX11_figureOf_33 ?_
            refine pv_getI (pc := 34) dX11_figureOf_34 fg_X11_132_9 rfl (by omega) hfs ?_
            refine pv_iret (pc := 37) dX11_figureOf_37 rfl rfl ?_
            have hx2 : ¬ x1 < 0 ∧ ¬ 2 < x1 := ⟨h15, h20⟩
            refine qX.same hX ?_
            unfold S_figureOf
            rw [if_pos ⟨hF.1, hF.2, by have f1 := h15; rw [i_lt] at f1; rw [i_le]; omega, by have f1 := h20; rw [i_lt] at f1; rw [i_le]; omega⟩]
            first
              | (have f1 := h30; rw [if_pos (by first | exact f1 | exact Classical.not_not.mp f1), fx5]; done)
              | (have f1 := h30; have f2 := h40; rw [if_neg f1, if_pos (by first | exact f2 | exact Classical.not_not.mp f2), fx7]; done)
              | (have f1 := h30; have f2 := h40; rw [if_neg f1, if_neg f2, fx8]; done)
        · refine pv_aload_0 (pc := 23) dX11_figureOf_23 ?_
          refine pv_iconst (pc := 24) (v := 5) dX11_figureOf_24 (by decide) ?_
          refine pv_callV1 (pc := 25) dX11_figureOf_25 mgX11_refuse lv_X11_70_11 (by decide) (sx_16 hT) (by omega) (c_X11_refuse (k := 5) hT hR (by decide) (by unfold vp_in; decide)) rfl rfl (by decide) ?_
          refine pv_iret (pc := 28) dX11_figureOf_28 rfl rfl ?_
          refine qX.ref hX k_lt5b ?_
          unfold S_figureOf
          rw [if_neg]
          rintro ⟨_, _, g3, g4⟩
          first
            | (have f1 := h15; rw [i_le] at g3; rw [i_lt] at f1; omega)
            | (have f1 := h20; rw [i_le] at g4; rw [i_lt] at f1; omega)
    · skip
      refine pv_aload_0 (pc := 0) dX11_figureOf_0 ?_
      refine pv_aload_0 (pc := 1) dX11_figureOf_1 ?_
      refine pv_getR (pc := 2) dX11_figureOf_2 fg_X11_31_11 rfl (by decide) (sx_16 hT) (rx_16_4 hR) ?_
      refine pv_iload_1 (pc := 5) dX11_figureOf_5 ?_
      refine pv_callV1 (pc := 6) dX11_figureOf_6 mgX11_figureAt lv_X11_114_11 (by decide) (sx_16 hT) (by omega) (c_X11_figureAt1 hT hR (by decide) (sx_21 hT) hF8 hFc fx1) rfl rfl (by decide) ?_
      refine pv_astore_3 (pc := 9) dX11_figureOf_9 (by decide) rfl ?_
      refine pv_aload_3 (pc := 10) dX11_figureOf_10 ?_
      refine pv_ifnull (pc := 11) dX11_figureOf_11 ?_
      refine pv_iload_2 (pc := 14) dX11_figureOf_14 ?_
      refine pv_if_lt (pc := 15) (tgt := 23) dX11_figureOf_15 (by decide) (fun h15 => ?_) (fun h15 => ?_)
      · refine pv_aload_0 (pc := 23) dX11_figureOf_23 ?_
        refine pv_iconst (pc := 24) (v := 5) dX11_figureOf_24 (by decide) ?_
        refine pv_callV1 (pc := 25) dX11_figureOf_25 mgX11_refuse lv_X11_70_11 (by decide) (sx_16 hT) (by omega) (c_X11_refuse (k := 5) hT hR (by decide) (by unfold vp_in; decide)) rfl rfl (by decide) ?_
        refine pv_iret (pc := 28) dX11_figureOf_28 rfl rfl ?_
        refine qX.ref hX k_lt5b ?_
        unfold S_figureOf
        rw [if_neg]
        rintro ⟨_, _, g3, g4⟩
        first
          | (have f1 := h15; rw [i_le] at g3; rw [i_lt] at f1; omega)
          | (have f1 := h20; rw [i_le] at g4; rw [i_lt] at f1; omega)
      · refine pv_iload_2 (pc := 18) dX11_figureOf_18 ?_
        refine pv_iconst (pc := 19) (v := 2) dX11_figureOf_19 (by decide) ?_
        refine pv_icmp_le (pc := 20) (tgt := 29) dX11_figureOf_20 (by decide) (fun h20 => ?_) (fun h20 => ?_)
        · refine pv_iload_2 (pc := 29) dX11_figureOf_29 ?_
          refine pv_if_ne (pc := 30) (tgt := 38) dX11_figureOf_30 (by decide) (fun h30 => ?_) (fun h30 => ?_)
          · refine pv_iload_2 (pc := 38) dX11_figureOf_38 ?_
            refine pv_iconst (pc := 39) (v := 1) dX11_figureOf_39 (by decide) ?_
            refine pv_icmp_ne (pc := 40) (tgt := 50) dX11_figureOf_40 (by decide) (fun h40 => ?_) (fun h40 => ?_)
            · refine pv_aload_3 (pc := 50) dX11_figureOf_50 ?_
              refine pv_getI (pc := 51) dX11_figureOf_51 fg_X11_138_0 rfl (by omega) hfs ?_
              refine pv_iret (pc := 54) dX11_figureOf_54 rfl rfl ?_
              have hx2 : ¬ x1 < 0 ∧ ¬ 2 < x1 := ⟨h15, h20⟩
              refine qX.same hX ?_
              unfold S_figureOf
              rw [if_pos ⟨hF.1, hF.2, by have f1 := h15; rw [i_lt] at f1; rw [i_le]; omega, by have f1 := h20; rw [i_lt] at f1; rw [i_le]; omega⟩]
              first
                | (have f1 := h30; rw [if_pos (by first | exact f1 | exact Classical.not_not.mp f1), fx5]; done)
                | (have f1 := h30; have f2 := h40; rw [if_neg f1, if_pos (by first | exact f2 | exact Classical.not_not.mp f2), fx7]; done)
                | (have f1 := h30; have f2 := h40; rw [if_neg f1, if_neg f2, fx8]; done)
            · refine pv_aload_3 (pc := 43) dX11_figureOf_43 ?_
              refine pv_getI (pc := 44) dX11_figureOf_44 fg_X11_158_0 rfl (by omega) hfs ?_
              refine pv_goto (pc := 47) (tgt := 54) dX11_figureOf_47 (by decide) ?_
              refine pv_iret (pc := 54) dX11_figureOf_54 rfl rfl ?_
              have hx2 : ¬ x1 < 0 ∧ ¬ 2 < x1 := ⟨h15, h20⟩
              refine qX.same hX ?_
              unfold S_figureOf
              rw [if_pos ⟨hF.1, hF.2, by have f1 := h15; rw [i_lt] at f1; rw [i_le]; omega, by have f1 := h20; rw [i_lt] at f1; rw [i_le]; omega⟩]
              first
                | (have f1 := h30; rw [if_pos (by first | exact f1 | exact Classical.not_not.mp f1), fx5]; done)
                | (have f1 := h30; have f2 := h40; rw [if_neg f1, if_pos (by first | exact f2 | exact Classical.not_not.mp f2), fx7]; done)
                | (have f1 := h30; have f2 := h40; rw [if_neg f1, if_neg f2, fx8]; done)
          · refine pv_aload_3 (pc := 33) dX11_figureOf_33 ?_
            refine pv_getI (pc := 34) dX11_figureOf_34 fg_X11_132_0 rfl (by omega) hfs ?_
            refine pv_iret (pc := 37) dX11_figureOf_37 rfl rfl ?_
            have hx2 : ¬ x1 < 0 ∧ ¬ 2 < x1 := ⟨h15, h20⟩
            refine qX.same hX ?_
            unfold S_figureOf
            rw [if_pos ⟨hF.1, hF.2, by have f1 := h15; rw [i_lt] at f1; rw [i_le]; omega, by have f1 := h20; rw [i_lt] at f1; rw [i_le]; omega⟩]
            first
              | (have f1 := h30; rw [if_pos (by first | exact f1 | exact Classical.not_not.mp f1), fx5]; done)
              | (have f1 := h30; have f2 := h40; rw [if_neg f1, if_pos (by first | exact f2 | exact Classical.not_not.mp f2), fx7]; done)
              | (have f1 := h30; have f2 := h40; rw [if_neg f1, if_neg f2, fx8]; done)
        · refine pv_aload_0 (pc := 23) dX11_figureOf_23 ?_
          refine pv_iconst (pc := 24) (v := 5) dX11_figureOf_24 (by decide) ?_
          refine pv_callV1 (pc := 25) dX11_figureOf_25 mgX11_refuse lv_X11_70_11 (by decide) (sx_16 hT) (by omega) (c_X11_refuse (k := 5) hT hR (by decide) (by unfold vp_in; decide)) rfl rfl (by decide) ?_
          refine pv_iret (pc := 28) dX11_figureOf_28 rfl rfl ?_
          refine qX.ref hX k_lt5b ?_
          unfold S_figureOf
          rw [if_neg]
          rintro ⟨_, _, g3, g4⟩
          first
            | (have f1 := h15; rw [i_le] at g3; rw [i_lt] at f1; omega)
            | (have f1 := h20; rw [i_le] at g4; rw [i_lt] at f1; omega)
    · skip
      refine pv_aload_0 (pc := 0) dX11_figureOf_0 ?_
      refine pv_aload_0 (pc := 1) dX11_figureOf_1 ?_
      refine pv_getR (pc := 2) dX11_figureOf_2 fg_X11_31_11 rfl (by decide) (sx_16 hT) (rx_16_4 hR) ?_
      refine pv_iload_1 (pc := 5) dX11_figureOf_5 ?_
      refine pv_callV1 (pc := 6) dX11_figureOf_6 mgX11_figureAt lv_X11_114_11 (by decide) (sx_16 hT) (by omega) (c_X11_figureAt1 hT hR (by decide) (sx_21 hT) hF8 hFc fx1) rfl rfl (by decide) ?_
      refine pv_astore_3 (pc := 9) dX11_figureOf_9 (by decide) rfl ?_
      refine pv_aload_3 (pc := 10) dX11_figureOf_10 ?_
      refine pv_ifnull (pc := 11) dX11_figureOf_11 ?_
      refine pv_iload_2 (pc := 14) dX11_figureOf_14 ?_
      refine pv_if_lt (pc := 15) (tgt := 23) dX11_figureOf_15 (by decide) (fun h15 => ?_) (fun h15 => ?_)
      · refine pv_aload_0 (pc := 23) dX11_figureOf_23 ?_
        refine pv_iconst (pc := 24) (v := 5) dX11_figureOf_24 (by decide) ?_
        refine pv_callV1 (pc := 25) dX11_figureOf_25 mgX11_refuse lv_X11_70_11 (by decide) (sx_16 hT) (by omega) (c_X11_refuse (k := 5) hT hR (by decide) (by unfold vp_in; decide)) rfl rfl (by decide) ?_
        refine pv_iret (pc := 28) dX11_figureOf_28 rfl rfl ?_
        refine qX.ref hX k_lt5b ?_
        unfold S_figureOf
        rw [if_neg]
        rintro ⟨_, _, g3, g4⟩
        first
          | (have f1 := h15; rw [i_le] at g3; rw [i_lt] at f1; omega)
          | (have f1 := h20; rw [i_le] at g4; rw [i_lt] at f1; omega)
      · refine pv_iload_2 (pc := 18) dX11_figureOf_18 ?_
        refine pv_iconst (pc := 19) (v := 2) dX11_figureOf_19 (by decide) ?_
        refine pv_icmp_le (pc := 20) (tgt := 29) dX11_figureOf_20 (by decide) (fun h20 => ?_) (fun h20 => ?_)
        · refine pv_iload_2 (pc := 29) dX11_figureOf_29 ?_
          refine pv_if_ne (pc := 30) (tgt := 38) dX11_figureOf_30 (by decide) (fun h30 => ?_) (fun h30 => ?_)
          · refine pv_iload_2 (pc := 38) dX11_figureOf_38 ?_
            refine pv_iconst (pc := 39) (v := 1) dX11_figureOf_39 (by decide) ?_
            refine pv_icmp_ne (pc := 40) (tgt := 50) dX11_figureOf_40 (by decide) (fun h40 => ?_) (fun h40 => ?_)
            · refine pv_aload_3 (pc := 50) dX11_figureOf_50 ?_
              refine pv_getI (pc := 51) dX11_figureOf_51 fg_X11_138_6 rfl (by omega) hfs ?_
              refine pv_iret (pc := 54) dX11_figureOf_54 rfl rfl ?_
              have hx2 : ¬ x1 < 0 ∧ ¬ 2 < x1 := ⟨h15, h20⟩
              refine qX.same hX ?_
              unfold S_figureOf
              rw [if_pos ⟨hF.1, hF.2, by have f1 := h15; rw [i_lt] at f1; rw [i_le]; omega, by have f1 := h20; rw [i_lt] at f1; rw [i_le]; omega⟩]
              first
                | (have f1 := h30; rw [if_pos (by first | exact f1 | exact Classical.not_not.mp f1), fx5]; done)
                | (have f1 := h30; have f2 := h40; rw [if_neg f1, if_pos (by first | exact f2 | exact Classical.not_not.mp f2), fx7]; done)
                | (have f1 := h30; have f2 := h40; rw [if_neg f1, if_neg f2, fx8]; done)
            · refine pv_aload_3 (pc := 43) dX11_figureOf_43 ?_
              refine pv_getI (pc := 44) dX11_figureOf_44 fg_X11_158_6 rfl (by omega) hfs ?_
              refine pv_goto (pc := 47) (tgt := 54) dX11_figureOf_47 (by decide) ?_
              refine pv_iret (pc := 54) dX11_figureOf_54 rfl rfl ?_
              have hx2 : ¬ x1 < 0 ∧ ¬ 2 < x1 := ⟨h15, h20⟩
              refine qX.same hX ?_
              unfold S_figureOf
              rw [if_pos ⟨hF.1, hF.2, by have f1 := h15; rw [i_lt] at f1; rw [i_le]; omega, by have f1 := h20; rw [i_lt] at f1; rw [i_le]; omega⟩]
              first
                | (have f1 := h30; rw [if_pos (by first | exact f1 | exact Classical.not_not.mp f1), fx5]; done)
                | (have f1 := h30; have f2 := h40; rw [if_neg f1, if_pos (by first | exact f2 | exact Classical.not_not.mp f2), fx7]; done)
                | (have f1 := h30; have f2 := h40; rw [if_neg f1, if_neg f2, fx8]; done)
          · refine pv_aload_3 (pc := 33) dX11_figureOf_33 ?_
            refine pv_getI (pc := 34) dX11_figureOf_34 fg_X11_132_6 rfl (by omega) hfs ?_
            refine pv_iret (pc := 37) dX11_figureOf_37 rfl rfl ?_
            have hx2 : ¬ x1 < 0 ∧ ¬ 2 < x1 := ⟨h15, h20⟩
            refine qX.same hX ?_
            unfold S_figureOf
            rw [if_pos ⟨hF.1, hF.2, by have f1 := h15; rw [i_lt] at f1; rw [i_le]; omega, by have f1 := h20; rw [i_lt] at f1; rw [i_le]; omega⟩]
            first
              | (have f1 := h30; rw [if_pos (by first | exact f1 | exact Classical.not_not.mp f1), fx5]; done)
              | (have f1 := h30; have f2 := h40; rw [if_neg f1, if_pos (by first | exact f2 | exact Classical.not_not.mp f2), fx7]; done)
              | (have f1 := h30; have f2 := h40; rw [if_neg f1, if_neg f2, fx8]; done)
        · refine pv_aload_0 (pc := 23) dX11_figureOf_23 ?_
          refine pv_iconst (pc := 24) (v := 5) dX11_figureOf_24 (by decide) ?_
          refine pv_callV1 (pc := 25) dX11_figureOf_25 mgX11_refuse lv_X11_70_11 (by decide) (sx_16 hT) (by omega) (c_X11_refuse (k := 5) hT hR (by decide) (by unfold vp_in; decide)) rfl rfl (by decide) ?_
          refine pv_iret (pc := 28) dX11_figureOf_28 rfl rfl ?_
          refine qX.ref hX k_lt5b ?_
          unfold S_figureOf
          rw [if_neg]
          rintro ⟨_, _, g3, g4⟩
          first
            | (have f1 := h15; rw [i_le] at g3; rw [i_lt] at f1; omega)
            | (have f1 := h20; rw [i_le] at g4; rw [i_lt] at f1; omega)
  · have hFn : ¬ (0 ≤ f ∧ f < I 21 3 ∧ f < 8) := fun q => hF ⟨q.1, by rw [← xn]; exact q.2.1⟩
    refine pv_aload_0 (pc := 0) dX11_figureOf_0 ?_
    refine pv_aload_0 (pc := 1) dX11_figureOf_1 ?_
    refine pv_getR (pc := 2) dX11_figureOf_2 fg_X11_31_11 rfl (by decide) (sx_16 hT) (rx_16_4 hR) ?_
    refine pv_iload_1 (pc := 5) dX11_figureOf_5 ?_
    refine pv_callV1 (pc := 6) dX11_figureOf_6 mgX11_figureAt lv_X11_114_11 (by decide) (sx_16 hT) (by omega) (c_X11_figureAt0 hT hR (by decide) (sx_21 hT) hFn) rfl rfl (by decide) ?_
    refine pv_astoreN_3 (pc := 9) dX11_figureOf_9 (by decide) rfl ?_
    refine pv_aloadN_3 (pc := 10) dX11_figureOf_10 ?_
    refine pv_ifnullN (pc := 11) (tgt := 23) dX11_figureOf_11 (by decide) ?_
    refine pv_aload_0 (pc := 23) dX11_figureOf_23 ?_
    refine pv_iconst (pc := 24) (v := 5) dX11_figureOf_24 (by decide) ?_
    refine pv_callV1 (pc := 25) dX11_figureOf_25 mgX11_refuse lv_X11_70_11 (by decide) (sx_16 hT) (by omega) (c_X11_refuse (k := 5) hT hR (by decide) (by unfold vp_in; decide)) rfl rfl (by decide) ?_
    refine pv_iret (pc := 28) dX11_figureOf_28 rfl rfl ?_
    refine qX.ref hX k_lt5b ?_; unfold S_figureOf; rw [if_neg (fun q => hF ⟨q.1, q.2.1⟩)]

