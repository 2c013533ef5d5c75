/-! the class: row set show copy -/

def x_tr (I : pv_I) (k : Nat) (o n f : Int32) : pv_I := pv_u (pv_u (pv_u I (45 + 2 * k) 1 o) (45 + 2 * k) 2 n) (45 + 2 * k) 3 f
theorem x_tr_o {I : pv_I} {k : Nat} {o n f : Int32} {a j : Nat} (h : a ≠ 45 + 2 * k) : x_tr I k o n f a j = I a j := by
  unfold x_tr
  rw [pv_u_o _ (fun q => h q.1), pv_u_o _ (fun q => h q.1), pv_u_o _ (fun q => h q.1)]
theorem x_tr_1 {I : pv_I} {k : Nat} {o n f : Int32} : x_tr I k o n f (45 + 2 * k) 1 = o ∧ x_tr I k o n f (45 + 2 * k) 2 = n ∧ x_tr I k o n f (45 + 2 * k) 3 = f := by
  unfold x_tr
  refine ⟨?_, ?_, ?_⟩ <;> simp [pv_u_app]
set_option maxRecDepth 100000 in
set_option maxHeartbeats 4000000 in
theorem c_X8_takeRow {G : pv_G} {d : Nat} {o n : Int32} {k : Nat} {t : pv_T} {I : pv_I} {L : pv_L} {Rf : pv_R} (hT : sh_ok t) (hR : rf_ok Rf) (hs8 : k < 8) (hd : 1 ≤ d) : pv_Mt G mX8_takeRow d 0 0 [.ref (45 + 2 * k), .int o, .int n] t I L Rf (pv_is none t (x_tr I k o n (-1)) (x_fl L (46 + 2 * k) 0 160) Rf) := by
  refine pv_mt mgX8_takeRow.2.2.2.2.2 [.ref (45 + 2 * k), .int o, .int n] rfl (Nat.le_of_ble_eq_true rfl) ?_
  refine pv_aload_0 (pc := 0) dX8_takeRow_0 ?_
  refine pv_iload_1 (pc := 1) dX8_takeRow_1 ?_
  refine pv_putI (pc := 2) dX8_takeRow_2 fl_X8_15_8 (fun q => by cases q) ⟨rfl, rfl, rfl⟩ (by omega) (sx_sh hT hs8) ?_
  refine pv_aload_0 (pc := 5) dX8_takeRow_5 ?_
  refine pv_iload_2 (pc := 6) dX8_takeRow_6 ?_
  refine pv_putI (pc := 7) dX8_takeRow_7 fl_X8_25_8 (fun q => by cases q) ⟨rfl, rfl, rfl⟩ (by omega) (sx_sh hT hs8) ?_
  refine pv_aload_0 (pc := 10) dX8_takeRow_10 ?_
  refine pv_iconst (pc := 11) (v := (-1)) dX8_takeRow_11 (by decide) ?_
  refine pv_putI (pc := 12) dX8_takeRow_12 fl_X8_19_8 (fun q => by cases q) ⟨rfl, rfl, rfl⟩ (by omega) (sx_sh hT hs8) ?_
  refine pv_aload_0 (pc := 15) dX8_takeRow_15 ?_
  refine pv_getR (pc := 16) dX8_takeRow_16 fg_X8_9_8 rfl (by omega) (sx_sh hT hs8) (rx_ce hR hs8) ?_
  refine pv_lconst (pc := 19) (v := 0) dX8_takeRow_19 (by decide) ?_
  refine pv_callS0 (pc := 20) dX8_takeRow_20 mgJ7_fill_d0a16 ls_X8_28 (by omega) (c_J7_fill_d0a16 (by omega) (sx_ce hT hs8) (by decide)) rfl rfl (by decide) ?_
  refine pv_vret (pc := 23) dX8_takeRow_23 rfl ?_
  exact ⟨rfl, rfl, rfl, rfl, rfl⟩

set_option maxRecDepth 100000 in
set_option maxHeartbeats 4000000 in
theorem c_X8_takeFigure {G : pv_G} {d : Nat} {f : Int32} {k : Nat} {t : pv_T} {I : pv_I} {L : pv_L} {Rf : pv_R} (hT : sh_ok t) (hR : rf_ok Rf) (hs8 : k < 8) : pv_Mt G mX8_takeFigure d 0 0 [.ref (45 + 2 * k), .int f] t I L Rf (pv_is none t (x_tr I k (-1) 0 f) L Rf) := by
  refine pv_mt mgX8_takeFigure.2.2.2.2.2 [.ref (45 + 2 * k), .int f] rfl (Nat.le_of_ble_eq_true rfl) ?_
  refine pv_aload_0 (pc := 0) dX8_takeFigure_0 ?_
  refine pv_iconst (pc := 1) (v := (-1)) dX8_takeFigure_1 (by decide) ?_
  refine pv_putI (pc := 2) dX8_takeFigure_2 fl_X8_15_8 (fun q => by cases q) ⟨rfl, rfl, rfl⟩ (by omega) (sx_sh hT hs8) ?_
  refine pv_aload_0 (pc := 5) dX8_takeFigure_5 ?_
  refine pv_iconst (pc := 6) (v := 0) dX8_takeFigure_6 (by decide) ?_
  refine pv_putI (pc := 7) dX8_takeFigure_7 fl_X8_25_8 (fun q => by cases q) ⟨rfl, rfl, rfl⟩ (by omega) (sx_sh hT hs8) ?_
  refine pv_aload_0 (pc := 10) dX8_takeFigure_10 ?_
  refine pv_iload_1 (pc := 11) dX8_takeFigure_11 ?_
  refine pv_putI (pc := 12) dX8_takeFigure_12 fl_X8_19_8 (fun q => by cases q) ⟨rfl, rfl, rfl⟩ (by omega) (sx_sh hT hs8) ?_
  refine pv_vret (pc := 15) dX8_takeFigure_15 rfl ?_
  exact ⟨rfl, rfl, rfl, rfl, rfl⟩

set_option maxRecDepth 100000 in
set_option maxHeartbeats 4000000 in
theorem c_X11_row {G : pv_G} {d : Nat} {J : pv_I} {K : pv_L} {s o n : Int32} {t : pv_T} {I : pv_I} {L : pv_L} {Rf : pv_R} (hW : WF J K) (hX : RX J K t I L Rf)  (hd : 60 ≤ d) : pv_Mt G mX11_row d 0 0 [.ref 16, .int s, .int o, .int n] t I L Rf (qX (S_row J K s o n) I L) := by
  refine pv_mt mgX11_row.2.2.2.2.2 [.ref 16, .int s, .int o, .int n, .retAddr 0] rfl (Nat.le_of_ble_eq_true rfl) ?_
  have hT := hX.1
  have hR := hX.2.1
  obtain ⟨-, -, ⟨xp, xq, xn, xst, xsp, xsd, xc⟩, xf, xs, xb, xi⟩ := id hX
  by_cases hs : s_sh s = true
  · have hin := s_sh_in hs
    have hs8 : s.toNatClampNeg < 8 := (pv_in_lt hin).2.2.1
    have hkd := x_kind hW hX hs8
    refine pv_aload_0 (pc := 0) dX11_row_0 ?_
    refine pv_iload_1 (pc := 1) dX11_row_1 ?_
    refine pv_callV1 (pc := 2) dX11_row_2 mgX11_shelfAt lv_X11_66_11 (by decide) (sx_16 hT) (by omega) (c_X11_shelfAt1 hT hR hin) rfl rfl (by decide) ?_
    refine pv_astore_4 (pc := 5) dX11_row_5 (by decide) rfl ?_
    refine pv_aload_4 (pc := 7) dX11_row_7 ?_
    refine pv_ifnonnull (pc := 9) (tgt := 18) dX11_row_9 (by decide) ?_
    refine pv_iload_3 (pc := 18) dX11_row_18 ?_
    refine pv_if_ge (pc := 19) (tgt := 28) dX11_row_19 (by decide) (fun h19 => ?_) (fun h19 => ?_)
    · refine pv_iload_2 (pc := 28) dX11_row_28 ?_
      refine pv_if_lt (pc := 29) (tgt := 37) dX11_row_29 (by decide) (fun h29 => ?_) (fun h29 => ?_)
      · refine pv_aload_0 (pc := 37) dX11_row_37 ?_
        refine pv_bipush (pc := 38) (v := 6) dX11_row_38 (by decide) ?_
        refine pv_callV1 (pc := 40) dX11_row_40 mgX11_refuse lv_X11_70_11 (by decide) (sx_16 hT) (by omega) (c_X11_refuse (k := 6) hT hR (by decide) (by unfold vp_in; decide)) rfl rfl (by decide) ?_
        refine pv_iret (pc := 43) dX11_row_43 rfl rfl ?_
        refine qX.ref hX k_l6 ?_
        unfold S_row
        rw [if_pos hs, if_neg h19, if_neg]
        rintro ⟨g1, g2⟩
        first
          | (have f1 := h29; simp only [i_lt, i_le, (show (0 : Int32).toInt = 0 from by decide), (show (3 : Int32).toInt = 3 from by decide), (show (4 : Int32).toInt = 4 from by decide)] at *; omega)
          | (have f1 := h34; simp only [i_lt, i_le, (show (0 : Int32).toInt = 0 from by decide), (show (3 : Int32).toInt = 3 from by decide), (show (4 : Int32).toInt = 4 from by decide)] at *; omega)
      · refine pv_iload_2 (pc := 32) dX11_row_32 ?_
        refine pv_iconst (pc := 33) (v := 4) dX11_row_33 (by decide) ?_
        refine pv_icmp_lt (pc := 34) (tgt := 44) dX11_row_34 (by decide) (fun h34 => ?_) (fun h34 => ?_)
        · refine pv_iload_3 (pc := 44) dX11_row_44 ?_
          refine pv_sipush (pc := 45) (v := 160) dX11_row_45 (by decide) ?_
          refine pv_icmp_le (pc := 48) (tgt := 58) dX11_row_48 (by decide) (fun h48 => ?_) (fun h48 => ?_)
          · refine pv_aload_4 (pc := 58) dX11_row_58 ?_
            refine pv_iload_2 (pc := 60) dX11_row_60 ?_
            refine pv_iload_3 (pc := 61) dX11_row_61 ?_
            refine pv_callV0 (pc := 62) dX11_row_62 mgX8_takeRow lv_X11_74_8 (by omega) (sx_sh hT hs8) (by omega) (c_X8_takeRow hT hR hs8 (by omega)) rfl rfl (by decide) ?_
            refine pv_iconst (pc := 65) (v := 1) dX11_row_65 (by decide) ?_
            refine pv_iret (pc := 66) dX11_row_66 rfl rfl ?_
            have f2 : 0 ≤ o ∧ o ≤ 3 := by
              have g1 := h29; have g2 : o < 4 := (by first | exact h34 | exact Classical.not_not.mp h34)
              simp only [i_lt, i_le, (show (0 : Int32).toInt = 0 from by decide), (show (3 : Int32).toInt = 3 from by decide), (show (4 : Int32).toInt = 4 from by decide)] at *
              omega
            have e : S_row J K s o n = (.int 1, pv_u (pv_u (pv_u J 6 s.toNatClampNeg 1) 7 s.toNatClampNeg o) 8 s.toNatClampNeg n, pv_ur K (1 + s.toNatClampNeg) (fun _ => 0)) := by unfold S_row; rw [if_pos hs, if_neg h19, if_pos f2, if_neg h48]
            rw [e]
            have hI : ∀ a j, a ≠ 45 + 2 * s.toNatClampNeg → x_tr I s.toNatClampNeg o n (-1) a j = I a j := fun a j h => x_tr_o h
            have hL : ∀ a j, a ≠ 46 + 2 * s.toNatClampNeg → x_fl L (46 + 2 * s.toNatClampNeg) 0 160 a j = L a j := fun a j h => x_fl_o h
            refine ⟨rfl, hX.shelf hs8 hI hL (fun a j h => ?_) (fun a j h => ?_) ⟨fun q => ?_, fun _ => ⟨?_, ?_, x_tr_1.2.2, fun j hj => ?_⟩, fun q => ?_⟩, kM.s hs8 hI hL⟩
            · show pv_u (pv_u (pv_u J 6 s.toNatClampNeg 1) 7 s.toNatClampNeg o) 8 s.toNatClampNeg n a j = J a j
              rw [pv_u_o _ (by omega), pv_u_o _ (by omega), pv_u_o _ (by omega)]
            · show pv_ur K (1 + s.toNatClampNeg) (fun _ => 0) a j = K a j
              rw [pv_ur_app, if_neg h]
            · exact absurd (show (1 : Int32) = 0 by simpa [pv_u_app] using q) (by decide)
            · rw [x_tr_1.1]; simp [pv_u_app]
            · rw [x_tr_1.2.1]; simp [pv_u_app]
            · rw [x_fl_i hj]; show (0 : Int64) = pv_ur K (1 + s.toNatClampNeg) (fun _ => 0) (1 + s.toNatClampNeg) j; rw [pv_ur_app, if_pos rfl]
            · exact absurd (show (1 : Int32) = 2 by simpa [pv_u_app] using q) (by decide)
          · refine pv_aload_0 (pc := 51) dX11_row_51 ?_
            refine pv_bipush (pc := 52) (v := 7) dX11_row_52 (by decide) ?_
            refine pv_callV1 (pc := 54) dX11_row_54 mgX11_refuse lv_X11_70_11 (by decide) (sx_16 hT) (by omega) (c_X11_refuse (k := 7) hT hR (by decide) (by unfold vp_in; decide)) rfl rfl (by decide) ?_
            refine pv_iret (pc := 57) dX11_row_57 rfl rfl ?_
            have f2 : 0 ≤ o ∧ o ≤ 3 := by
              have g1 := h29; have g2 : o < 4 := (by first | exact h34 | exact Classical.not_not.mp h34)
              simp only [i_lt, i_le, (show (0 : Int32).toInt = 0 from by decide), (show (3 : Int32).toInt = 3 from by decide), (show (4 : Int32).toInt = 4 from by decide)] at *
              omega
            refine qX.ref hX k_l7 ?_; unfold S_row; rw [if_pos hs, if_neg h19, if_pos f2, if_pos h48]
        · refine pv_aload_0 (pc := 37) dX11_row_37 ?_
          refine pv_bipush (pc := 38) (v := 6) dX11_row_38 (by decide) ?_
          refine pv_callV1 (pc := 40) dX11_row_40 mgX11_refuse lv_X11_70_11 (by decide) (sx_16 hT) (by omega) (c_X11_refuse (k := 6) hT hR (by decide) (by unfold vp_in; decide)) rfl rfl (by decide) ?_
          refine pv_iret (pc := 43) dX11_row_43 rfl rfl ?_
          refine qX.ref hX k_l6 ?_
          unfold S_row
          rw [if_pos hs, if_neg h19, if_neg]
          rintro ⟨g1, g2⟩
          first
            | (have f1 := h29; simp only [i_lt, i_le, (show (0 : Int32).toInt = 0 from by decide), (show (3 : Int32).toInt = 3 from by decide), (show (4 : Int32).toInt = 4 from by decide)] at *; omega)
            | (have f1 := h34; simp only [i_lt, i_le, (show (0 : Int32).toInt = 0 from by decide), (show (3 : Int32).toInt = 3 from by decide), (show (4 : Int32).toInt = 4 from by decide)] at *; omega)
    · refine pv_aload_0 (pc := 22) dX11_row_22 ?_
      refine pv_iconst (pc := 23) (v := 4) dX11_row_23 (by decide) ?_
      refine pv_callV1 (pc := 24) dX11_row_24 mgX11_refuse lv_X11_70_11 (by decide) (sx_16 hT) (by omega) (c_X11_refuse (k := 4) hT hR (by decide) (by unfold vp_in; decide)) rfl rfl (by decide) ?_
      refine pv_iret (pc := 27) dX11_row_27 rfl rfl ?_
      refine qX.ref hX (by decide : 4 < 8) ?_; unfold S_row; rw [if_pos hs, if_pos h19]
  · have hs0 : s_sh s = false := by simpa using hs
    refine pv_aload_0 (pc := 0) dX11_row_0 ?_
    refine pv_iload_1 (pc := 1) dX11_row_1 ?_
    refine pv_callV1 (pc := 2) dX11_row_2 mgX11_shelfAt lv_X11_66_11 (by decide) (sx_16 hT) (by omega) (c_X11_shelfAt0 hT hR hs0) rfl rfl (by decide) ?_
    refine pv_astoreN_4 (pc := 5) dX11_row_5 (by decide) rfl ?_
    refine pv_aloadN_4 (pc := 7) dX11_row_7 ?_
    refine pv_ifnonnullN (pc := 9) dX11_row_9 ?_
    refine pv_aload_0 (pc := 12) dX11_row_12 ?_
    refine pv_iconst (pc := 13) (v := 1) dX11_row_13 (by decide) ?_
    refine pv_callV1 (pc := 14) dX11_row_14 mgX11_refuse lv_X11_70_11 (by decide) (sx_16 hT) (by omega) (c_X11_refuse (k := 1) hT hR (by decide) (by unfold vp_in; decide)) rfl rfl (by decide) ?_
    refine pv_iret (pc := 17) dX11_row_17 rfl rfl ?_
    refine qX.ref hX (by decide : 1 < 8) ?_; unfold S_row; rw [if_neg (by rw [hs0]; decide)]

set_option maxRecDepth 100000 in
set_option maxHeartbeats 4000000 in
theorem c_X8_cut {G : pv_G} {d : Nat} {v : Int64} {k : Nat} {t : pv_T} {I : pv_I} {L : pv_L} {Rf : pv_R} (hT : sh_ok t) (hR : rf_ok Rf) (hs8 : k < 8) : pv_Mt G mX8_cut d 0 0 [.ref (45 + 2 * k), .long v] t I L Rf (pv_is (some (.long (s_cut (I (45 + 2 * k) 1) v))) t I L Rf) := by
  refine pv_mt mgX8_cut.2.2.2.2.2 [.ref (45 + 2 * k), .long v, .retAddr 0] rfl (Nat.le_of_ble_eq_true rfl) ?_
  refine pv_aload_0 (pc := 0) dX8_cut_0 ?_
  refine pv_getI (pc := 1) dX8_cut_1 fg_X8_15_8 rfl (by omega) (sx_sh hT hs8) ?_
  refine pv_tab3 (pc := 4) dX8_cut_4 (t0 := 32) (t1 := 37) (t2 := 42) (t3 := 46) (by decide) (by decide) (by decide) (by decide) (fun h4_0 => ?_) (fun h4_1 => ?_) (fun h4_2 => ?_) (fun h4_3 => ?_)
  · refine pv_lload_1 (pc := 32) dX8_cut_32 ?_
    refine pv_l2i (pc := 33) dX8_cut_33 ?_
    refine pv_i2b (pc := 34) dX8_cut_34 ?_
    refine pv_i2l (pc := 35) dX8_cut_35 ?_
    refine pv_lret (pc := 36) dX8_cut_36 rfl ?_
    refine ⟨congrArg (fun z => some (Value.long z)) ?_, rfl, rfl, rfl, rfl⟩
    first
      | (have f0 := h4_0; have f1 : I (45 + 2 * k) 1 = 0 := (by rw [← Int32.toInt_inj, f0]; decide); unfold s_cut; rw [f1, if_pos rfl])
      | (have f0 := h4_1; have f1 : I (45 + 2 * k) 1 = 1 := (by rw [← Int32.toInt_inj, f0]; decide); unfold s_cut; rw [f1, if_neg (by decide), if_pos rfl])
      | (have f0 := h4_2; have f1 : I (45 + 2 * k) 1 = 2 := (by rw [← Int32.toInt_inj, f0]; decide); unfold s_cut; rw [f1, if_neg (by decide), if_neg (by decide), if_pos rfl])
      | (have f0 := h4_3; unfold s_cut; rw [if_neg (fun q => by rw [q] at f0; revert f0; decide), if_neg (fun q => by rw [q] at f0; revert f0; decide), if_neg (fun q => by rw [q] at f0; revert f0; decide)])
  · refine pv_lload_1 (pc := 37) dX8_cut_37 ?_
    refine pv_l2i (pc := 38) dX8_cut_38 ?_
    refine pv_i2s (pc := 39) dX8_cut_39 ?_
    refine pv_i2l (pc := 40) dX8_cut_40 ?_
    refine pv_lret (pc := 41) dX8_cut_41 rfl ?_
    refine ⟨congrArg (fun z => some (Value.long z)) ?_, rfl, rfl, rfl, rfl⟩
    first
      | (have f0 := h4_0; have f1 : I (45 + 2 * k) 1 = 0 := (by rw [← Int32.toInt_inj, f0]; decide); unfold s_cut; rw [f1, if_pos rfl])
      | (have f0 := h4_1; have f1 : I (45 + 2 * k) 1 = 1 := (by rw [← Int32.toInt_inj, f0]; decide); unfold s_cut; rw [f1, if_neg (by decide), if_pos rfl])
      | (have f0 := h4_2; have f1 : I (45 + 2 * k) 1 = 2 := (by rw [← Int32.toInt_inj, f0]; decide); unfold s_cut; rw [f1, if_neg (by decide), if_neg (by decide), if_pos rfl])
      | (have f0 := h4_3; unfold s_cut; rw [if_neg (fun q => by rw [q] at f0; revert f0; decide), if_neg (fun q => by rw [q] at f0; revert f0; decide), if_neg (fun q => by rw [q] at f0; revert f0; decide)])
  · refine pv_lload_1 (pc := 42) dX8_cut_42 ?_
    refine pv_l2i (pc := 43) dX8_cut_43 ?_
    refine pv_i2l (pc := 44) dX8_cut_44 ?_
    refine pv_lret (pc := 45) dX8_cut_45 rfl ?_
    refine ⟨congrArg (fun z => some (Value.long z)) ?_, rfl, rfl, rfl, rfl⟩
    first
      | (have f0 := h4_0; have f1 : I (45 + 2 * k) 1 = 0 := (by rw [← Int32.toInt_inj, f0]; decide); unfold s_cut; rw [f1, if_pos rfl])
      | (have f0 := h4_1; have f1 : I (45 + 2 * k) 1 = 1 := (by rw [← Int32.toInt_inj, f0]; decide); unfold s_cut; rw [f1, if_neg (by decide), if_pos rfl])
      | (have f0 := h4_2; have f1 : I (45 + 2 * k) 1 = 2 := (by rw [← Int32.toInt_inj, f0]; decide); unfold s_cut; rw [f1, if_neg (by decide), if_neg (by decide), if_pos rfl])
      | (have f0 := h4_3; unfold s_cut; rw [if_neg (fun q => by rw [q] at f0; revert f0; decide), if_neg (fun q => by rw [q] at f0; revert f0; decide), if_neg (fun q => by rw [q] at f0; revert f0; decide)])
  · refine pv_lload_1 (pc := 46) dX8_cut_46 ?_
    refine pv_lret (pc := 47) dX8_cut_47 rfl ?_
    refine ⟨congrArg (fun z => some (Value.long z)) ?_, rfl, rfl, rfl, rfl⟩
    first
      | (have f0 := h4_0; have f1 : I (45 + 2 * k) 1 = 0 := (by rw [← Int32.toInt_inj, f0]; decide); unfold s_cut; rw [f1, if_pos rfl])
      | (have f0 := h4_1; have f1 : I (45 + 2 * k) 1 = 1 := (by rw [← Int32.toInt_inj, f0]; decide); unfold s_cut; rw [f1, if_neg (by decide), if_pos rfl])
      | (have f0 := h4_2; have f1 : I (45 + 2 * k) 1 = 2 := (by rw [← Int32.toInt_inj, f0]; decide); unfold s_cut; rw [f1, if_neg (by decide), if_neg (by decide), if_pos rfl])
      | (have f0 := h4_3; unfold s_cut; rw [if_neg (fun q => by rw [q] at f0; revert f0; decide), if_neg (fun q => by rw [q] at f0; revert f0; decide), if_neg (fun q => by rw [q] at f0; revert f0; decide)])

set_option maxRecDepth 100000 in
set_option maxHeartbeats 4000000 in
theorem c_X8_put {G : pv_G} {d : Nat} {i : Int32} {v : Int64} {k : Nat} {t : pv_T} {I : pv_I} {L : pv_L} {Rf : pv_R} (hT : sh_ok t) (hR : rf_ok Rf) (hs8 : k < 8) (hh : x_has I k i = true) (hd : 1 ≤ d) : pv_Mt G mX8_put d 0 0 [.ref (45 + 2 * k), .int i, .long v] t I L Rf (pv_is none t I (pv_u L (46 + 2 * k) i.toNatClampNeg (s_cut (I (45 + 2 * k) 1) v)) Rf) := by
  refine pv_mt mgX8_put.2.2.2.2.2 [.ref (45 + 2 * k), .int i, .long v, .retAddr 0] rfl (Nat.le_of_ble_eq_true rfl) ?_
  refine pv_aload_0 (pc := 0) dX8_put_0 ?_
  refine pv_iload_1 (pc := 1) dX8_put_1 ?_
  refine pv_callV1 (pc := 2) dX8_put_2 mgX8_hasPlace lv_X8_34_8 (by omega) (sx_sh hT hs8) (by omega) (c_X8_hasPlace hT hR hs8) rfl rfl (by decide) ?_
  refine pv_if_eq (pc := 5) (tgt := 19) dX8_put_5 (by decide) (fun h5 => absurd h5 (by rw [hh]; decide)) (fun h5 => ?_)
  refine pv_aload_0 (pc := 8) dX8_put_8 ?_
  refine pv_getR (pc := 9) dX8_put_9 fg_X8_9_8 rfl (by omega) (sx_sh hT hs8) (rx_ce hR hs8) ?_
  refine pv_iload_1 (pc := 12) dX8_put_12 ?_
  refine pv_aload_0 (pc := 13) dX8_put_13 ?_
  refine pv_lload_2 (pc := 14) dX8_put_14 ?_
  refine pv_callV1 (pc := 15) dX8_put_15 mgX8_cut lv_X8_38_8 (by omega) (sx_sh hT hs8) (by omega) (c_X8_cut hT hR hs8) rfl rfl (Nat.le_of_ble_eq_true rfl) ?_
  refine pv_lastorej (pc := 18) dX8_put_18 (by omega) (sx_ce hT hs8) rfl (x_has_in hh).1 ?_
  refine pv_vret (pc := 19) dX8_put_19 rfl ?_
  exact ⟨rfl, rfl, rfl, rfl, rfl⟩

theorem w_wants_e {J : pv_I} {s : Int32} (h : ¬ -(w_wants J s) = 0) : (w_wants J s = -1 ∧ s_sh s = false) ∨ (w_wants J s = -2 ∧ s_sh s = true ∧ J 6 s.toNatClampNeg = 2) ∨ (w_wants J s = -3 ∧ s_sh s = true ∧ J 6 s.toNatClampNeg = 0 ∧ ¬ J 6 s.toNatClampNeg = 2) := by
  unfold w_wants w_sh at *
  cases hs : s_sh s with
  | false => rw [if_neg (by decide)]; exact Or.inl ⟨rfl, rfl⟩
  | true =>
    rw [hs, if_pos rfl] at h
    rw [if_pos rfl]
    by_cases h2 : J 6 s.toNatClampNeg = 2
    · rw [if_pos h2]; exact Or.inr (Or.inl ⟨rfl, rfl, h2⟩)
    · rw [if_neg h2] at h ⊢
      by_cases h0 : J 6 s.toNatClampNeg = 0
      · rw [if_pos h0]; exact Or.inr (Or.inr ⟨rfl, rfl, h0, h2⟩)
      · rw [if_neg h0] at h; exact absurd (by decide) h
theorem w_wants_z {J : pv_I} {s : Int32} (h : -(w_wants J s) = 0) : w_wants J s = 0 := by
  rcases w_wants_c J s with g | g | g | g
  · exact g
  · rw [g] at h; exact absurd h (by decide)
  · rw [g] at h; exact absurd h (by decide)
  · rw [g] at h; exact absurd h (by decide)
set_option maxRecDepth 100000 in
set_option maxHeartbeats 4000000 in
theorem c_X11_set {G : pv_G} {d : Nat} {J : pv_I} {K : pv_L} {s i : Int32} {v : Int64} {t : pv_T} {I : pv_I} {L : pv_L} {Rf : pv_R} (hW : WF J K) (hX : RX J K t I L Rf)  (hd : 60 ≤ d) : pv_Mt G mX11_set d 0 0 [.ref 16, .int s, .int i, .long v] t I L Rf (qX (S_set J K s i v) I L) := by
  refine pv_mt mgX11_set.2.2.2.2.2 [.ref 16, .int s, .int i, .long v, .retAddr 0, .retAddr 0, .retAddr 0] rfl (Nat.le_of_ble_eq_true rfl) ?_
  have hT := hX.1
  have hR := hX.2.1
  obtain ⟨-, -, ⟨xp, xq, xn, xst, xsp, xsd, xc⟩, xf, xs, xb, xi⟩ := id hX
  by_cases hs : s_sh s = true
  · have hin := s_sh_in hs
    have hs8 : s.toNatClampNeg < 8 := (pv_in_lt hin).2.2.1
    have hkd := x_kind hW hX hs8
    refine pv_aload_0 (pc := 0) dX11_set_0 ?_
    refine pv_iload_1 (pc := 1) dX11_set_1 ?_
    refine pv_callV1 (pc := 2) dX11_set_2 mgX11_noRow lv_X11_78_11 (by decide) (sx_16 hT) (by omega) (c_X11_noRow hW hX (by omega)) rfl rfl (by decide) ?_
    refine pv_istore_5 (pc := 5) dX11_set_5 (by decide) rfl ?_
    refine pv_aload_0 (pc := 7) dX11_set_7 ?_
    refine pv_iload_1 (pc := 8) dX11_set_8 ?_
    refine pv_callV1 (pc := 9) dX11_set_9 mgX11_shelfAt lv_X11_66_11 (by decide) (sx_16 hT) (by omega) (c_X11_shelfAt1 hT hR hin) rfl rfl (by decide) ?_
    refine pv_astore_6 (pc := 12) dX11_set_12 (by decide) rfl ?_
    refine pv_iload_5 (pc := 14) dX11_set_14 ?_
    refine pv_if_ne (pc := 16) (tgt := 24) dX11_set_16 (by decide) (fun h16 => ?_) (fun h16 => ?_)
    · refine pv_aload_0 (pc := 24) dX11_set_24 ?_
      refine pv_iload_5 (pc := 25) dX11_set_25 ?_
      refine pv_callV1 (pc := 27) dX11_set_27 mgX11_refuse lv_X11_70_11 (by decide) (sx_16 hT) (by omega) (c_X11_refuse (k := (-(w_wants J s)).toNatClampNeg) hT hR rfl (w_wants_in J s)) rfl rfl (by decide) ?_
      refine pv_iret (pc := 30) dX11_set_30 rfl rfl ?_
      rw [Int32.neg_neg]
      refine qX.ref hX (w_wants_n J s) ?_
      rcases w_wants_e h16 with ⟨g, g1⟩ | ⟨g, g1, g2⟩ | ⟨g, g1, g2, g3⟩
      · unfold S_set; rw [g, if_neg (by rw [g1]; decide)]; rfl
      · unfold S_set w_sh; rw [g, if_pos g1, if_pos g2]; rfl
      · unfold S_set w_sh; rw [g, if_pos g1, if_neg g3, if_pos g2]; rfl
    · refine pv_aload_6 (pc := 19) dX11_set_19 ?_
      refine pv_ifnonnull (pc := 21) (tgt := 31) dX11_set_21 (by decide) ?_
      have e16 : w_wants J s = 0 := w_wants_z (by first | exact h16 | exact Classical.not_not.mp h16)
      refine pv_aload_6 (pc := 31) dX11_set_31 ?_
      refine pv_iload_2 (pc := 33) dX11_set_33 ?_
      refine pv_callV1 (pc := 34) dX11_set_34 mgX8_hasPlace lv_X11_81_8 (by omega) (sx_sh hT hs8) (by omega) (c_X8_hasPlace hT hR hs8) rfl rfl (by decide) ?_
      refine pv_if_ne (pc := 37) (tgt := 46) dX11_set_37 (by decide) (fun h37 => ?_) (fun h37 => ?_)
      · refine pv_aload_6 (pc := 46) dX11_set_46 ?_
        refine pv_iload_2 (pc := 48) dX11_set_48 ?_
        refine pv_lload_3 (pc := 49) dX11_set_49 ?_
        refine pv_callV0 (pc := 50) dX11_set_50 mgX8_put lv_X11_85_8 (by omega) (sx_sh hT hs8) (by omega) (c_X8_put hT hR hs8 ((pv_b_n0 _).mp h37) (by omega)) rfl rfl (by decide) ?_
        refine pv_iconst (pc := 53) (v := 1) dX11_set_53 (by decide) ?_
        refine pv_iret (pc := 54) dX11_set_54 rfl rfl ?_
        have hh := (pv_b_n0 _).mp h37
        rcases hkd with ⟨k1, k2, k3, k4⟩ | ⟨k1, k2, k3, k4, k5, k6, k7⟩ | ⟨k1, k2, k3, k4, k5⟩
        · exact absurd ((w_wants_k hs).1 k1) (by rw [e16]; decide)
        · obtain ⟨g1, g2, g3⟩ := x_has_in hh
          rw [k3] at g3
          have e : S_set J K s i v = (.int 1, J, pv_u K (1 + s.toNatClampNeg) i.toNatClampNeg (s_cut (J 7 s.toNatClampNeg) v)) := by
            unfold S_set w_sh; rw [if_pos hs, if_neg (by rw [k1]; decide), if_neg (by rw [k1]; decide), if_pos ⟨by rw [i_le, Int32.toInt_zero]; omega, by rw [i_lt]; omega⟩]
          rw [e, k2]
          have hL : ∀ a j, a ≠ 46 + 2 * s.toNatClampNeg → pv_u L (46 + 2 * s.toNatClampNeg) i.toNatClampNeg (s_cut (J 7 s.toNatClampNeg) v) a j = L a j := fun a j h => pv_u_o _ (fun q => h q.1)
          refine ⟨rfl, hX.shelf hs8 (fun _ _ _ => rfl) hL (fun _ _ _ => rfl) (fun a j h => pv_u_o _ (fun q => h q.1)) ⟨fun q => ?_, fun _ => ⟨k2, k3, k4, fun j hj => ?_⟩, fun q => ?_⟩, kM.s hs8 (fun _ _ _ => rfl) hL⟩
          · have q : J 6 s.toNatClampNeg = 0 := q
            rw [k1] at q; exact absurd q (by decide)
          · show pv_u L (46 + 2 * s.toNatClampNeg) i.toNatClampNeg _ (46 + 2 * s.toNatClampNeg) j = pv_u K (1 + s.toNatClampNeg) i.toNatClampNeg _ (1 + s.toNatClampNeg) j
            rw [pv_u_eq, pv_u_eq, k7 j hj]
          · have q : J 6 s.toNatClampNeg = 2 := q
            rw [k1] at q; exact absurd q (by decide)
        · exact absurd ((w_wants_k hs).2.2 k1) (by rw [e16]; decide)
      · refine pv_aload_0 (pc := 40) dX11_set_40 ?_
        refine pv_iconst (pc := 41) (v := 5) dX11_set_41 (by decide) ?_
        refine pv_callV1 (pc := 42) dX11_set_42 mgX11_refuse lv_X11_70_11 (by decide) (sx_16 hT) (by omega) (c_X11_refuse (k := 5) hT hR (by decide) (by unfold vp_in; decide)) rfl rfl (by decide) ?_
        refine pv_iret (pc := 45) dX11_set_45 rfl rfl ?_
        rcases hkd with ⟨k1, k2, k3, k4⟩ | ⟨k1, k2, k3, k4, k5, k6, k7⟩ | ⟨k1, k2, k3, k4, k5⟩
        · exact absurd ((w_wants_k hs).1 k1) (by rw [e16]; decide)
        · refine qX.ref hX k_lt5b ?_
          have f1 := (pv_b_0 _).mp h37
          unfold S_set w_sh
          rw [if_pos hs, if_neg (by rw [k1]; decide), if_neg (by rw [k1]; decide), if_neg]
          rintro ⟨q3, q4⟩
          unfold x_has at f1
          rw [k3, decide_eq_true q3, decide_eq_true q4, decide_eq_true (by rw [i_lt, show (160 : Int32).toInt = 160 by decide]; rw [i_lt] at q4; omega)] at f1
          exact absurd f1 (by decide)
        · exact absurd ((w_wants_k hs).2.2 k1) (by rw [e16]; decide)
  · have hs0 : s_sh s = false := by simpa using hs
    refine pv_aload_0 (pc := 0) dX11_set_0 ?_
    refine pv_iload_1 (pc := 1) dX11_set_1 ?_
    refine pv_callV1 (pc := 2) dX11_set_2 mgX11_noRow lv_X11_78_11 (by decide) (sx_16 hT) (by omega) (c_X11_noRow hW hX (by omega)) rfl rfl (by decide) ?_
    refine pv_istore_5 (pc := 5) dX11_set_5 (by decide) rfl ?_
    refine pv_aload_0 (pc := 7) dX11_set_7 ?_
    refine pv_iload_1 (pc := 8) dX11_set_8 ?_
    refine pv_callV1 (pc := 9) dX11_set_9 mgX11_shelfAt lv_X11_66_11 (by decide) (sx_16 hT) (by omega) (c_X11_shelfAt0 hT hR hs0) rfl rfl (by decide) ?_
    refine pv_astoreN_6 (pc := 12) dX11_set_12 (by decide) rfl ?_
    refine pv_iload_5 (pc := 14) dX11_set_14 ?_
    refine pv_if_ne (pc := 16) (tgt := 24) dX11_set_16 (by decide) (fun h16 => ?_) (fun h16 => absurd h16 (by rw [w_wants_n0 hs0]; decide))
    refine pv_aload_0 (pc := 24) dX11_set_24 ?_
    refine pv_iload_5 (pc := 25) dX11_set_25 ?_
    refine pv_callV1 (pc := 27) dX11_set_27 mgX11_refuse lv_X11_70_11 (by decide) (sx_16 hT) (by omega) (c_X11_refuse (k := (-(w_wants J s)).toNatClampNeg) hT hR rfl (w_wants_in J s)) rfl rfl (by decide) ?_
    refine pv_iret (pc := 30) dX11_set_30 rfl rfl ?_
    rw [Int32.neg_neg]
    refine qX.ref hX (w_wants_n J s) ?_
    unfold S_set; rw [w_wants_n0 hs0, if_neg (by rw [hs0]; decide)]; rfl

