/-! the class: a hall taken from another; rows tried -/

set_option maxRecDepth 100000 in
set_option maxHeartbeats 4000000 in
theorem c_tk_25_21 {G : pv_G} {d : Nat} {n st sp sd : Int32} {p q : Int64} {c : Nat → Int32} {t : pv_T} {I : pv_I} {L : pv_L} {Rf : pv_R} (hT : sh_ok t) (hR : rf_ok Rf) (hx : XHw 21 n st sp sd p q c I L) (hd : 1 ≤ d) : pv_Mt G mX4_takeFrom d 0 0 [.ref 25, .ref 21] t I L Rf (fun v t1 I1 L1 R1 => v = none ∧ t1 = t ∧ R1 = Rf ∧ fH 25 I L I1 L1 ∧ XHw 25 n st sp sd p q c I1 L1) := by
  refine pv_mt mgX4_takeFrom.2.2.2.2.2 [.ref 25, .ref 21] rfl (Nat.le_of_ble_eq_true rfl) ?_
  obtain ⟨x1, x2, x3, x4, x5, x6, x7⟩ := id hx
  refine pv_aload_1 (pc := 0) dX4_takeFrom_0 ?_
  refine pv_getR (pc := 1) dX4_takeFrom_1 fg_X4_9_4 rfl (by decide) (sx_21 hT) (rx_21_0 hR) ?_
  refine pv_iconst (pc := 4) (v := 0) dX4_takeFrom_4 (by decide) ?_
  refine pv_aload_0 (pc := 5) dX4_takeFrom_5 ?_
  refine pv_getR (pc := 6) dX4_takeFrom_6 fg_X4_9_4 rfl (by decide) (sx_25 hT) (rx_25_0 hR) ?_
  refine pv_iconst (pc := 9) (v := 0) dX4_takeFrom_9 (by decide) ?_
  refine pv_aload_0 (pc := 10) dX4_takeFrom_10 ?_
  refine pv_getR (pc := 11) dX4_takeFrom_11 fg_X4_9_4 rfl (by decide) (sx_25 hT) (rx_25_0 hR) ?_
  refine pv_alen (pc := 14) dX4_takeFrom_14 (sx_26 hT) rfl ?_
  refine pv_copyi (pc := 15) dX4_takeFrom_15 cpl_X4_23 cp_1 cp_2 cp_3 (by decide) (by decide) (sx_22 hT) (sx_26 hT) (by decide) (by decide) (by decide) (by decide) (by decide) (by omega) (by decide) ?_
  refine pv_aload_0 (pc := 18) dX4_takeFrom_18 ?_
  refine pv_aload_1 (pc := 19) dX4_takeFrom_19 ?_
  refine pv_getL (pc := 20) dX4_takeFrom_20 fg_X4_29_4 (by decide) (sx_21 hT) ?_
  refine pv_putL (pc := 23) dX4_takeFrom_23 fl_X4_29_4 (fun q => by cases q) (by decide) (sx_25 hT) ?_
  refine pv_aload_0 (pc := 26) dX4_takeFrom_26 ?_
  refine pv_aload_1 (pc := 27) dX4_takeFrom_27 ?_
  refine pv_getL (pc := 28) dX4_takeFrom_28 fg_X4_15_4 (by decide) (sx_21 hT) ?_
  refine pv_putL (pc := 31) dX4_takeFrom_31 fl_X4_15_4 (fun q => by cases q) (by decide) (sx_25 hT) ?_
  refine pv_aload_0 (pc := 34) dX4_takeFrom_34 ?_
  refine pv_aload_1 (pc := 35) dX4_takeFrom_35 ?_
  refine pv_getI (pc := 36) dX4_takeFrom_36 fg_X4_32_4 rfl (by decide) (sx_21 hT) ?_
  refine pv_putI (pc := 39) dX4_takeFrom_39 fl_X4_32_4 (fun q => by cases q) ⟨rfl, rfl, rfl⟩ (by decide) (sx_25 hT) ?_
  refine pv_aload_0 (pc := 42) dX4_takeFrom_42 ?_
  refine pv_aload_1 (pc := 43) dX4_takeFrom_43 ?_
  refine pv_getI (pc := 44) dX4_takeFrom_44 fg_X4_35_4 rfl (by decide) (sx_21 hT) ?_
  refine pv_putI (pc := 47) dX4_takeFrom_47 fl_X4_35_4 (fun q => by cases q) ⟨rfl, rfl, rfl⟩ (by decide) (sx_25 hT) ?_
  refine pv_aload_0 (pc := 50) dX4_takeFrom_50 ?_
  refine pv_aload_1 (pc := 51) dX4_takeFrom_51 ?_
  refine pv_getI (pc := 52) dX4_takeFrom_52 fg_X4_38_4 rfl (by decide) (sx_21 hT) ?_
  refine pv_putI (pc := 55) dX4_takeFrom_55 fl_X4_38_4 (fun q => by cases q) ⟨rfl, rfl, rfl⟩ (by decide) (sx_25 hT) ?_
  refine pv_aload_0 (pc := 58) dX4_takeFrom_58 ?_
  refine pv_aload_1 (pc := 59) dX4_takeFrom_59 ?_
  refine pv_getI (pc := 60) dX4_takeFrom_60 fg_X4_19_4 rfl (by decide) (sx_21 hT) ?_
  refine pv_putI (pc := 63) dX4_takeFrom_63 fl_X4_19_4 (fun q => by cases q) ⟨rfl, rfl, rfl⟩ (by decide) (sx_25 hT) ?_
  refine pv_vret (pc := 66) dX4_takeFrom_66 rfl ?_
  refine ⟨rfl, rfl, rfl, ⟨fun a j h1 h2 => ?_, fun a j h1 => ?_⟩, x1, x2, x3, x4, x5, x6, fun j hj => ?_⟩
  · rw [pv_u_o _ (by omega), pv_u_o _ (by omega), pv_u_o _ (by omega), pv_u_o _ (by omega), pv_ur_app, if_neg (by omega)]
  · rw [pv_u_o _ (by omega), pv_u_o _ (by omega)]
  · show (if 0 ≤ j ∧ j < 0 + 4 then I 22 (0 + (j - 0)) else I 26 j) = c j
    rw [if_pos (by omega), show 0 + (j - 0) = j by omega]
    exact x7 j hj

set_option maxRecDepth 100000 in
set_option maxHeartbeats 4000000 in
theorem c_tk_27_21 {G : pv_G} {d : Nat} {n st sp sd : Int32} {p q : Int64} {c : Nat → Int32} {t : pv_T} {I : pv_I} {L : pv_L} {Rf : pv_R} (hT : sh_ok t) (hR : rf_ok Rf) (hx : XHw 21 n st sp sd p q c I L) (hd : 1 ≤ d) : pv_Mt G mX4_takeFrom d 0 0 [.ref 27, .ref 21] t I L Rf (fun v t1 I1 L1 R1 => v = none ∧ t1 = t ∧ R1 = Rf ∧ fH 27 I L I1 L1 ∧ XHw 27 n st sp sd p q c I1 L1) := by
  refine pv_mt mgX4_takeFrom.2.2.2.2.2 [.ref 27, .ref 21] rfl (Nat.le_of_ble_eq_true rfl) ?_
  obtain ⟨x1, x2, x3, x4, x5, x6, x7⟩ := id hx
  refine pv_aload_1 (pc := 0) dX4_takeFrom_0 ?_
  refine pv_getR (pc := 1) dX4_takeFrom_1 fg_X4_9_4 rfl (by decide) (sx_21 hT) (rx_21_0 hR) ?_
  refine pv_iconst (pc := 4) (v := 0) dX4_takeFrom_4 (by decide) ?_
  refine pv_aload_0 (pc := 5) dX4_takeFrom_5 ?_
  refine pv_getR (pc := 6) dX4_takeFrom_6 fg_X4_9_4 rfl (by decide) (sx_27 hT) (rx_27_0 hR) ?_
  refine pv_iconst (pc := 9) (v := 0) dX4_takeFrom_9 (by decide) ?_
  refine pv_aload_0 (pc := 10) dX4_takeFrom_10 ?_
  refine pv_getR (pc := 11) dX4_takeFrom_11 fg_X4_9_4 rfl (by decide) (sx_27 hT) (rx_27_0 hR) ?_
  refine pv_alen (pc := 14) dX4_takeFrom_14 (sx_28 hT) rfl ?_
  refine pv_copyi (pc := 15) dX4_takeFrom_15 cpl_X4_23 cp_1 cp_2 cp_3 (by decide) (by decide) (sx_22 hT) (sx_28 hT) (by decide) (by decide) (by decide) (by decide) (by decide) (by omega) (by decide) ?_
  refine pv_aload_0 (pc := 18) dX4_takeFrom_18 ?_
  refine pv_aload_1 (pc := 19) dX4_takeFrom_19 ?_
  refine pv_getL (pc := 20) dX4_takeFrom_20 fg_X4_29_4 (by decide) (sx_21 hT) ?_
  refine pv_putL (pc := 23) dX4_takeFrom_23 fl_X4_29_4 (fun q => by cases q) (by decide) (sx_27 hT) ?_
  refine pv_aload_0 (pc := 26) dX4_takeFrom_26 ?_
  refine pv_aload_1 (pc := 27) dX4_takeFrom_27 ?_
  refine pv_getL (pc := 28) dX4_takeFrom_28 fg_X4_15_4 (by decide) (sx_21 hT) ?_
  refine pv_putL (pc := 31) dX4_takeFrom_31 fl_X4_15_4 (fun q => by cases q) (by decide) (sx_27 hT) ?_
  refine pv_aload_0 (pc := 34) dX4_takeFrom_34 ?_
  refine pv_aload_1 (pc := 35) dX4_takeFrom_35 ?_
  refine pv_getI (pc := 36) dX4_takeFrom_36 fg_X4_32_4 rfl (by decide) (sx_21 hT) ?_
  refine pv_putI (pc := 39) dX4_takeFrom_39 fl_X4_32_4 (fun q => by cases q) ⟨rfl, rfl, rfl⟩ (by decide) (sx_27 hT) ?_
  refine pv_aload_0 (pc := 42) dX4_takeFrom_42 ?_
  refine pv_aload_1 (pc := 43) dX4_takeFrom_43 ?_
  refine pv_getI (pc := 44) dX4_takeFrom_44 fg_X4_35_4 rfl (by decide) (sx_21 hT) ?_
  refine pv_putI (pc := 47) dX4_takeFrom_47 fl_X4_35_4 (fun q => by cases q) ⟨rfl, rfl, rfl⟩ (by decide) (sx_27 hT) ?_
  refine pv_aload_0 (pc := 50) dX4_takeFrom_50 ?_
  refine pv_aload_1 (pc := 51) dX4_takeFrom_51 ?_
  refine pv_getI (pc := 52) dX4_takeFrom_52 fg_X4_38_4 rfl (by decide) (sx_21 hT) ?_
  refine pv_putI (pc := 55) dX4_takeFrom_55 fl_X4_38_4 (fun q => by cases q) ⟨rfl, rfl, rfl⟩ (by decide) (sx_27 hT) ?_
  refine pv_aload_0 (pc := 58) dX4_takeFrom_58 ?_
  refine pv_aload_1 (pc := 59) dX4_takeFrom_59 ?_
  refine pv_getI (pc := 60) dX4_takeFrom_60 fg_X4_19_4 rfl (by decide) (sx_21 hT) ?_
  refine pv_putI (pc := 63) dX4_takeFrom_63 fl_X4_19_4 (fun q => by cases q) ⟨rfl, rfl, rfl⟩ (by decide) (sx_27 hT) ?_
  refine pv_vret (pc := 66) dX4_takeFrom_66 rfl ?_
  refine ⟨rfl, rfl, rfl, ⟨fun a j h1 h2 => ?_, fun a j h1 => ?_⟩, x1, x2, x3, x4, x5, x6, fun j hj => ?_⟩
  · rw [pv_u_o _ (by omega), pv_u_o _ (by omega), pv_u_o _ (by omega), pv_u_o _ (by omega), pv_ur_app, if_neg (by omega)]
  · rw [pv_u_o _ (by omega), pv_u_o _ (by omega)]
  · show (if 0 ≤ j ∧ j < 0 + 4 then I 22 (0 + (j - 0)) else I 28 j) = c j
    rw [if_pos (by omega), show 0 + (j - 0) = j by omega]
    exact x7 j hj

set_option maxRecDepth 100000 in
set_option maxHeartbeats 4000000 in
theorem c_tk_21_25 {G : pv_G} {d : Nat} {n st sp sd : Int32} {p q : Int64} {c : Nat → Int32} {t : pv_T} {I : pv_I} {L : pv_L} {Rf : pv_R} (hT : sh_ok t) (hR : rf_ok Rf) (hx : XHw 25 n st sp sd p q c I L) (hd : 1 ≤ d) : pv_Mt G mX4_takeFrom d 0 0 [.ref 21, .ref 25] t I L Rf (fun v t1 I1 L1 R1 => v = none ∧ t1 = t ∧ R1 = Rf ∧ fH 21 I L I1 L1 ∧ XHw 21 n st sp sd p q c I1 L1) := by
  refine pv_mt mgX4_takeFrom.2.2.2.2.2 [.ref 21, .ref 25] rfl (Nat.le_of_ble_eq_true rfl) ?_
  obtain ⟨x1, x2, x3, x4, x5, x6, x7⟩ := id hx
  refine pv_aload_1 (pc := 0) dX4_takeFrom_0 ?_
  refine pv_getR (pc := 1) dX4_takeFrom_1 fg_X4_9_4 rfl (by decide) (sx_25 hT) (rx_25_0 hR) ?_
  refine pv_iconst (pc := 4) (v := 0) dX4_takeFrom_4 (by decide) ?_
  refine pv_aload_0 (pc := 5) dX4_takeFrom_5 ?_
  refine pv_getR (pc := 6) dX4_takeFrom_6 fg_X4_9_4 rfl (by decide) (sx_21 hT) (rx_21_0 hR) ?_
  refine pv_iconst (pc := 9) (v := 0) dX4_takeFrom_9 (by decide) ?_
  refine pv_aload_0 (pc := 10) dX4_takeFrom_10 ?_
  refine pv_getR (pc := 11) dX4_takeFrom_11 fg_X4_9_4 rfl (by decide) (sx_21 hT) (rx_21_0 hR) ?_
  refine pv_alen (pc := 14) dX4_takeFrom_14 (sx_22 hT) rfl ?_
  refine pv_copyi (pc := 15) dX4_takeFrom_15 cpl_X4_23 cp_1 cp_2 cp_3 (by decide) (by decide) (sx_26 hT) (sx_22 hT) (by decide) (by decide) (by decide) (by decide) (by decide) (by omega) (by decide) ?_
  refine pv_aload_0 (pc := 18) dX4_takeFrom_18 ?_
  refine pv_aload_1 (pc := 19) dX4_takeFrom_19 ?_
  refine pv_getL (pc := 20) dX4_takeFrom_20 fg_X4_29_4 (by decide) (sx_25 hT) ?_
  refine pv_putL (pc := 23) dX4_takeFrom_23 fl_X4_29_4 (fun q => by cases q) (by decide) (sx_21 hT) ?_
  refine pv_aload_0 (pc := 26) dX4_takeFrom_26 ?_
  refine pv_aload_1 (pc := 27) dX4_takeFrom_27 ?_
  refine pv_getL (pc := 28) dX4_takeFrom_28 fg_X4_15_4 (by decide) (sx_25 hT) ?_
  refine pv_putL (pc := 31) dX4_takeFrom_31 fl_X4_15_4 (fun q => by cases q) (by decide) (sx_21 hT) ?_
  refine pv_aload_0 (pc := 34) dX4_takeFrom_34 ?_
  refine pv_aload_1 (pc := 35) dX4_takeFrom_35 ?_
  refine pv_getI (pc := 36) dX4_takeFrom_36 fg_X4_32_4 rfl (by decide) (sx_25 hT) ?_
  refine pv_putI (pc := 39) dX4_takeFrom_39 fl_X4_32_4 (fun q => by cases q) ⟨rfl, rfl, rfl⟩ (by decide) (sx_21 hT) ?_
  refine pv_aload_0 (pc := 42) dX4_takeFrom_42 ?_
  refine pv_aload_1 (pc := 43) dX4_takeFrom_43 ?_
  refine pv_getI (pc := 44) dX4_takeFrom_44 fg_X4_35_4 rfl (by decide) (sx_25 hT) ?_
  refine pv_putI (pc := 47) dX4_takeFrom_47 fl_X4_35_4 (fun q => by cases q) ⟨rfl, rfl, rfl⟩ (by decide) (sx_21 hT) ?_
  refine pv_aload_0 (pc := 50) dX4_takeFrom_50 ?_
  refine pv_aload_1 (pc := 51) dX4_takeFrom_51 ?_
  refine pv_getI (pc := 52) dX4_takeFrom_52 fg_X4_38_4 rfl (by decide) (sx_25 hT) ?_
  refine pv_putI (pc := 55) dX4_takeFrom_55 fl_X4_38_4 (fun q => by cases q) ⟨rfl, rfl, rfl⟩ (by decide) (sx_21 hT) ?_
  refine pv_aload_0 (pc := 58) dX4_takeFrom_58 ?_
  refine pv_aload_1 (pc := 59) dX4_takeFrom_59 ?_
  refine pv_getI (pc := 60) dX4_takeFrom_60 fg_X4_19_4 rfl (by decide) (sx_25 hT) ?_
  refine pv_putI (pc := 63) dX4_takeFrom_63 fl_X4_19_4 (fun q => by cases q) ⟨rfl, rfl, rfl⟩ (by decide) (sx_21 hT) ?_
  refine pv_vret (pc := 66) dX4_takeFrom_66 rfl ?_
  refine ⟨rfl, rfl, rfl, ⟨fun a j h1 h2 => ?_, fun a j h1 => ?_⟩, x1, x2, x3, x4, x5, x6, fun j hj => ?_⟩
  · rw [pv_u_o _ (by omega), pv_u_o _ (by omega), pv_u_o _ (by omega), pv_u_o _ (by omega), pv_ur_app, if_neg (by omega)]
  · rw [pv_u_o _ (by omega), pv_u_o _ (by omega)]
  · show (if 0 ≤ j ∧ j < 0 + 4 then I 26 (0 + (j - 0)) else I 22 j) = c j
    rw [if_pos (by omega), show 0 + (j - 0) = j by omega]
    exact x7 j hj

set_option maxRecDepth 100000 in
set_option maxHeartbeats 4000000 in
theorem c_tk_23_21 {G : pv_G} {d : Nat} {n st sp sd : Int32} {p q : Int64} {c : Nat → Int32} {t : pv_T} {I : pv_I} {L : pv_L} {Rf : pv_R} (hT : sh_ok t) (hR : rf_ok Rf) (hx : XHw 21 n st sp sd p q c I L) (hd : 1 ≤ d) : pv_Mt G mX4_takeFrom d 0 0 [.ref 23, .ref 21] t I L Rf (fun v t1 I1 L1 R1 => v = none ∧ t1 = t ∧ R1 = Rf ∧ fH 23 I L I1 L1 ∧ XHw 23 n st sp sd p q c I1 L1) := by
  refine pv_mt mgX4_takeFrom.2.2.2.2.2 [.ref 23, .ref 21] rfl (Nat.le_of_ble_eq_true rfl) ?_
  obtain ⟨x1, x2, x3, x4, x5, x6, x7⟩ := id hx
  refine pv_aload_1 (pc := 0) dX4_takeFrom_0 ?_
  refine pv_getR (pc := 1) dX4_takeFrom_1 fg_X4_9_4 rfl (by decide) (sx_21 hT) (rx_21_0 hR) ?_
  refine pv_iconst (pc := 4) (v := 0) dX4_takeFrom_4 (by decide) ?_
  refine pv_aload_0 (pc := 5) dX4_takeFrom_5 ?_
  refine pv_getR (pc := 6) dX4_takeFrom_6 fg_X4_9_4 rfl (by decide) (sx_23 hT) (rx_23_0 hR) ?_
  refine pv_iconst (pc := 9) (v := 0) dX4_takeFrom_9 (by decide) ?_
  refine pv_aload_0 (pc := 10) dX4_takeFrom_10 ?_
  refine pv_getR (pc := 11) dX4_takeFrom_11 fg_X4_9_4 rfl (by decide) (sx_23 hT) (rx_23_0 hR) ?_
  refine pv_alen (pc := 14) dX4_takeFrom_14 (sx_24 hT) rfl ?_
  refine pv_copyi (pc := 15) dX4_takeFrom_15 cpl_X4_23 cp_1 cp_2 cp_3 (by decide) (by decide) (sx_22 hT) (sx_24 hT) (by decide) (by decide) (by decide) (by decide) (by decide) (by omega) (by decide) ?_
  refine pv_aload_0 (pc := 18) dX4_takeFrom_18 ?_
  refine pv_aload_1 (pc := 19) dX4_takeFrom_19 ?_
  refine pv_getL (pc := 20) dX4_takeFrom_20 fg_X4_29_4 (by decide) (sx_21 hT) ?_
  refine pv_putL (pc := 23) dX4_takeFrom_23 fl_X4_29_4 (fun q => by cases q) (by decide) (sx_23 hT) ?_
  refine pv_aload_0 (pc := 26) dX4_takeFrom_26 ?_
  refine pv_aload_1 (pc := 27) dX4_takeFrom_27 ?_
  refine pv_getL (pc := 28) dX4_takeFrom_28 fg_X4_15_4 (by decide) (sx_21 hT) ?_
  refine pv_putL (pc := 31) dX4_takeFrom_31 fl_X4_15_4 (fun q => by cases q) (by decide) (sx_23 hT) ?_
  refine pv_aload_0 (pc := 34) dX4_takeFrom_34 ?_
  refine pv_aload_1 (pc := 35) dX4_takeFrom_35 ?_
  refine pv_getI (pc := 36) dX4_takeFrom_36 fg_X4_32_4 rfl (by decide) (sx_21 hT) ?_
  refine pv_putI (pc := 39) dX4_takeFrom_39 fl_X4_32_4 (fun q => by cases q) ⟨rfl, rfl, rfl⟩ (by decide) (sx_23 hT) ?_
  refine pv_aload_0 (pc := 42) dX4_takeFrom_42 ?_
  refine pv_aload_1 (pc := 43) dX4_takeFrom_43 ?_
  refine pv_getI (pc := 44) dX4_takeFrom_44 fg_X4_35_4 rfl (by decide) (sx_21 hT) ?_
  refine pv_putI (pc := 47) dX4_takeFrom_47 fl_X4_35_4 (fun q => by cases q) ⟨rfl, rfl, rfl⟩ (by decide) (sx_23 hT) ?_
  refine pv_aload_0 (pc := 50) dX4_takeFrom_50 ?_
  refine pv_aload_1 (pc := 51) dX4_takeFrom_51 ?_
  refine pv_getI (pc := 52) dX4_takeFrom_52 fg_X4_38_4 rfl (by decide) (sx_21 hT) ?_
  refine pv_putI (pc := 55) dX4_takeFrom_55 fl_X4_38_4 (fun q => by cases q) ⟨rfl, rfl, rfl⟩ (by decide) (sx_23 hT) ?_
  refine pv_aload_0 (pc := 58) dX4_takeFrom_58 ?_
  refine pv_aload_1 (pc := 59) dX4_takeFrom_59 ?_
  refine pv_getI (pc := 60) dX4_takeFrom_60 fg_X4_19_4 rfl (by decide) (sx_21 hT) ?_
  refine pv_putI (pc := 63) dX4_takeFrom_63 fl_X4_19_4 (fun q => by cases q) ⟨rfl, rfl, rfl⟩ (by decide) (sx_23 hT) ?_
  refine pv_vret (pc := 66) dX4_takeFrom_66 rfl ?_
  refine ⟨rfl, rfl, rfl, ⟨fun a j h1 h2 => ?_, fun a j h1 => ?_⟩, x1, x2, x3, x4, x5, x6, fun j hj => ?_⟩
  · rw [pv_u_o _ (by omega), pv_u_o _ (by omega), pv_u_o _ (by omega), pv_u_o _ (by omega), pv_ur_app, if_neg (by omega)]
  · rw [pv_u_o _ (by omega), pv_u_o _ (by omega)]
  · show (if 0 ≤ j ∧ j < 0 + 4 then I 22 (0 + (j - 0)) else I 24 j) = c j
    rw [if_pos (by omega), show 0 + (j - 0) = j by omega]
    exact x7 j hj

set_option maxRecDepth 100000 in
set_option maxHeartbeats 4000000 in
theorem c_tk_21_23 {G : pv_G} {d : Nat} {n st sp sd : Int32} {p q : Int64} {c : Nat → Int32} {t : pv_T} {I : pv_I} {L : pv_L} {Rf : pv_R} (hT : sh_ok t) (hR : rf_ok Rf) (hx : XHw 23 n st sp sd p q c I L) (hd : 1 ≤ d) : pv_Mt G mX4_takeFrom d 0 0 [.ref 21, .ref 23] t I L Rf (fun v t1 I1 L1 R1 => v = none ∧ t1 = t ∧ R1 = Rf ∧ fH 21 I L I1 L1 ∧ XHw 21 n st sp sd p q c I1 L1) := by
  refine pv_mt mgX4_takeFrom.2.2.2.2.2 [.ref 21, .ref 23] rfl (Nat.le_of_ble_eq_true rfl) ?_
  obtain ⟨x1, x2, x3, x4, x5, x6, x7⟩ := id hx
  refine pv_aload_1 (pc := 0) dX4_takeFrom_0 ?_
  refine pv_getR (pc := 1) dX4_takeFrom_1 fg_X4_9_4 rfl (by decide) (sx_23 hT) (rx_23_0 hR) ?_
  refine pv_iconst (pc := 4) (v := 0) dX4_takeFrom_4 (by decide) ?_
  refine pv_aload_0 (pc := 5) dX4_takeFrom_5 ?_
  refine pv_getR (pc := 6) dX4_takeFrom_6 fg_X4_9_4 rfl (by decide) (sx_21 hT) (rx_21_0 hR) ?_
  refine pv_iconst (pc := 9) (v := 0) dX4_takeFrom_9 (by decide) ?_
  refine pv_aload_0 (pc := 10) dX4_takeFrom_10 ?_
  refine pv_getR (pc := 11) dX4_takeFrom_11 fg_X4_9_4 rfl (by decide) (sx_21 hT) (rx_21_0 hR) ?_
  refine pv_alen (pc := 14) dX4_takeFrom_14 (sx_22 hT) rfl ?_
  refine pv_copyi (pc := 15) dX4_takeFrom_15 cpl_X4_23 cp_1 cp_2 cp_3 (by decide) (by decide) (sx_24 hT) (sx_22 hT) (by decide) (by decide) (by decide) (by decide) (by decide) (by omega) (by decide) ?_
  refine pv_aload_0 (pc := 18) dX4_takeFrom_18 ?_
  refine pv_aload_1 (pc := 19) dX4_takeFrom_19 ?_
  refine pv_getL (pc := 20) dX4_takeFrom_20 fg_X4_29_4 (by decide) (sx_23 hT) ?_
  refine pv_putL (pc := 23) dX4_takeFrom_23 fl_X4_29_4 (fun q => by cases q) (by decide) (sx_21 hT) ?_
  refine pv_aload_0 (pc := 26) dX4_takeFrom_26 ?_
  refine pv_aload_1 (pc := 27) dX4_takeFrom_27 ?_
  refine pv_getL (pc := 28) dX4_takeFrom_28 fg_X4_15_4 (by decide) (sx_23 hT) ?_
  refine pv_putL (pc := 31) dX4_takeFrom_31 fl_X4_15_4 (fun q => by cases q) (by decide) (sx_21 hT) ?_
  refine pv_aload_0 (pc := 34) dX4_takeFrom_34 ?_
  refine pv_aload_1 (pc := 35) dX4_takeFrom_35 ?_
  refine pv_getI (pc := 36) dX4_takeFrom_36 fg_X4_32_4 rfl (by decide) (sx_23 hT) ?_
  refine pv_putI (pc := 39) dX4_takeFrom_39 fl_X4_32_4 (fun q => by cases q) ⟨rfl, rfl, rfl⟩ (by decide) (sx_21 hT) ?_
  refine pv_aload_0 (pc := 42) dX4_takeFrom_42 ?_
  refine pv_aload_1 (pc := 43) dX4_takeFrom_43 ?_
  refine pv_getI (pc := 44) dX4_takeFrom_44 fg_X4_35_4 rfl (by decide) (sx_23 hT) ?_
  refine pv_putI (pc := 47) dX4_takeFrom_47 fl_X4_35_4 (fun q => by cases q) ⟨rfl, rfl, rfl⟩ (by decide) (sx_21 hT) ?_
  refine pv_aload_0 (pc := 50) dX4_takeFrom_50 ?_
  refine pv_aload_1 (pc := 51) dX4_takeFrom_51 ?_
  refine pv_getI (pc := 52) dX4_takeFrom_52 fg_X4_38_4 rfl (by decide) (sx_23 hT) ?_
  refine pv_putI (pc := 55) dX4_takeFrom_55 fl_X4_38_4 (fun q => by cases q) ⟨rfl, rfl, rfl⟩ (by decide) (sx_21 hT) ?_
  refine pv_aload_0 (pc := 58) dX4_takeFrom_58 ?_
  refine pv_aload_1 (pc := 59) dX4_takeFrom_59 ?_
  refine pv_getI (pc := 60) dX4_takeFrom_60 fg_X4_19_4 rfl (by decide) (sx_23 hT) ?_
  refine pv_putI (pc := 63) dX4_takeFrom_63 fl_X4_19_4 (fun q => by cases q) ⟨rfl, rfl, rfl⟩ (by decide) (sx_21 hT) ?_
  refine pv_vret (pc := 66) dX4_takeFrom_66 rfl ?_
  refine ⟨rfl, rfl, rfl, ⟨fun a j h1 h2 => ?_, fun a j h1 => ?_⟩, x1, x2, x3, x4, x5, x6, fun j hj => ?_⟩
  · rw [pv_u_o _ (by omega), pv_u_o _ (by omega), pv_u_o _ (by omega), pv_u_o _ (by omega), pv_ur_app, if_neg (by omega)]
  · rw [pv_u_o _ (by omega), pv_u_o _ (by omega)]
  · show (if 0 ≤ j ∧ j < 0 + 4 then I 24 (0 + (j - 0)) else I 22 j) = c j
    rw [if_pos (by omega), show 0 + (j - 0) = j by omega]
    exact x7 j hj

set_option maxRecDepth 100000 in
set_option maxHeartbeats 4000000 in
theorem c_X4_danceN {G : pv_G} {d : Nat} {h : Nat} {t : pv_T} {I : pv_I} {L : pv_L} {Rf : pv_R} (hh : hl_ok t Rf h) : pv_Mt G mX4_dance d 0 0 [.ref h, .null] t I L Rf (pv_is (some (.int 0)) t I L Rf) := by
  refine pv_mt mgX4_dance.2.2.2.2.2 [.ref h, .null] rfl (Nat.le_of_ble_eq_true rfl) ?_
  refine pv_aloadN_1 (pc := 0) dX4_dance_0 ?_
  refine pv_ifnullN (pc := 1) (tgt := 12) dX4_dance_1 (by decide) ?_
  refine pv_iconst (pc := 12) (v := 0) dX4_dance_12 (by decide) ?_
  refine pv_iret (pc := 13) dX4_dance_13 rfl rfl ?_
  exact ⟨rfl, rfl, rfl, rfl, rfl⟩

abbrev YS : Type := Int32 × Int32 × Int64 × Int64 × (Nat → Int32)
/-- what a hall shows, with the state s -/
def XY (h : Nat) (n sd : Int32) (s : YS) (I : pv_I) (L : pv_L) : Prop := XHw h n s.1 s.2.1 sd s.2.2.1 s.2.2.2.1 s.2.2.2.2 I L
def y_fg (J : pv_I) (f : Nat) (s : YS) : YS := (s.1 + 1, s.2.1 + J 3 f, f_P (J 1 f) (J 2 f) s.2.2.1 s.2.2.2.1, f_Q (J 1 f) (J 2 f) s.2.2.1 s.2.2.2.1, f_C (J 1 f) (J 2 f) s.2.2.2.2)
def y_can (J : pv_I) (f : Int32) (s : YS) : Bool := decide (0 ≤ f) && decide (f < J 0 0) && y_mv (J 1 f.toNatClampNeg) (J 2 f.toNatClampNeg) s.2.2.1 s.2.2.2.1
/-- the elements danced one after another: where it stops, and the state there -/
def y_led (J : pv_I) (C : Nat → Int64) : Nat → Nat → YS → Nat × YS
  | 0, i, s => (i, s)
  | m + 1, i, s => if y_can J (C i).toInt32 s = true then y_led J C m (i + 1) (y_fg J (C i).toInt32.toNatClampNeg s) else (i, s)
def y_go (J : pv_I) (C : Nat → Int64) (n : Nat) : Nat → Nat → YS → Nat × YS
  | 0, i, s => (i, s)
  | m + 1, i, s => if i = n then y_go J C n m (y_led J C n 0 s).1 (y_led J C n 0 s).2 else (i, s)
theorem y_led_le (J : pv_I) (C : Nat → Int64) : ∀ m i s, i ≤ (y_led J C m i s).1 ∧ (y_led J C m i s).1 ≤ i + m
  | 0, i, s => ⟨Nat.le_refl _, Nat.le_refl _⟩
  | m + 1, i, s => by
    rw [y_led]
    split
    · have := y_led_le J C m (i + 1) (y_fg J (C i).toInt32.toNatClampNeg s); omega
    · exact ⟨Nat.le_refl _, by show i ≤ i + (m + 1); omega⟩
theorem w_bars_size {J : pv_I} {K : pv_L} {t : pv_T} {I : pv_I} {L : pv_L} {Rf : pv_R} {s n : Int32} (hW : WF J K) (hX : RX J K t I L Rf) (h : w_bars J s n = 0) : n.toInt ≤ (I (45 + 2 * s.toNatClampNeg) 2).toInt ∧ ∀ j, j < 160 → L (46 + 2 * s.toNatClampNeg) j = K (1 + s.toNatClampNeg) j := by
  unfold w_bars at h
  split at h
  · rename_i hw
    have hwn := w_wants_0 hw
    have hs8 := (pv_in_lt hwn.1).2.2.1
    rcases x_kind hW hX hs8 with ⟨k1, _⟩ | ⟨k1, k2, k3, k4, k5, k6, k7⟩ | ⟨k1, _⟩
    · exact absurd k1 hwn.2.2
    · split at h
      · exact absurd h (by decide)
      · split at h
        · exact absurd h (by decide)
        · rename_i g2
          rw [i_lt] at g2
          exact ⟨by rw [k3]; omega, k7⟩
    · exact absurd k1 hwn.2.1
  · exact absurd h (by assumption)
theorem x_hasI {I : pv_I} {k i : Nat} {n : Int32} (h : n.toInt ≤ (I (45 + 2 * k) 2).toInt) (h1 : (i : Int) < n.toInt) (h2 : i < 160) : x_has I k (Int32.ofNat i) = true := by
  unfold x_has
  rw [decide_eq_true (p := 0 ≤ Int32.ofNat i) (by rw [i_le, Int32.toInt_zero, i_of (by omega)]; omega), decide_eq_true (p := Int32.ofNat i < I (45 + 2 * k) 2) (by rw [i_lt, i_of (by omega)]; omega), decide_eq_true (p := Int32.ofNat i < 160) (by rw [i_lt, i_of (by omega), show (160 : Int32).toInt = 160 by decide]; omega)]
  rfl
set_option maxRecDepth 100000 in
set_option maxHeartbeats 4000000 in
theorem l_inn {G : pv_G} {d : Nat} {Q : pv_Q} {J : pv_I} {K : pv_L} {h : Nat} {s n tms l7 sd : Int32} {t : pv_T} {I0 : pv_I} {L0 : pv_L} {Rf : pv_R} (hW : WF J K) (hX : RX J K t I0 L0 Rf) (hh : hl_ok t Rf h) (h25 : h = 25 ∨ h = 27) (hb : w_bars J s n = 0) (hd : 12 ≤ d) : ∀ (m i : Nat) (s1 : YS) (I : pv_I) (L : pv_L), i + m = n.toNatClampNeg → XY h (J 0 0) sd s1 I L → fH h I0 L0 I L → (∀ I L, XY h (J 0 0) sd (y_led J (K (1 + s.toNatClampNeg)) m i s1).2 I L → fH h I0 L0 I L → pv_V G mX11_goOn d 0 0 Q 0 0 65 [.ref 16, .ref h, .int s, .int n, .int tms, .ref (45 + 2 * s.toNatClampNeg), .int (Int32.ofNat (y_led J (K (1 + s.toNatClampNeg)) m i s1).1), .int l7] [] t I L Rf) →
    pv_V G mX11_goOn d 0 0 Q 0 0 29 [.ref 16, .ref h, .int s, .int n, .int tms, .ref (45 + 2 * s.toNatClampNeg), .int (Int32.ofNat i), .int l7] [] t I L Rf := by
  intro m
  induction m with
  | zero =>
    intro i s1 I L hi hx hf hQ
    have hT := hX.1
    have hR := hX.2.1
    obtain ⟨hin, hn0, hn160⟩ := w_bars_0 hW hb
    have hs8 : s.toNatClampNeg < 8 := (pv_in_lt hin).2.2.1
    have hnl := i_lit n
    refine pv_aload_5 (pc := 29) dX11_goOn_29 ?_
    refine pv_ifnull (pc := 31) dX11_goOn_31 ?_
    refine pv_iload_6 (pc := 34) dX11_goOn_34 ?_
    refine pv_iload_3 (pc := 36) dX11_goOn_36 ?_
    refine pv_icmp_ge (pc := 37) (tgt := 65) dX11_goOn_37 (by decide) (fun h37 => ?_) (fun h37 => absurd h37 (by rw [i_lt, i_of (by omega)]; omega))
    exact hQ I L hx hf
  | succ m ih =>
    intro i s1 I L hi hx hf hQ
    have hT := hX.1
    have hR := hX.2.1
    obtain ⟨hin, hn0, hn160⟩ := w_bars_0 hW hb
    have hs8 : s.toNatClampNeg < 8 := (pv_in_lt hin).2.2.1
    have hnl := i_lit n
    refine pv_aload_5 (pc := 29) dX11_goOn_29 ?_
    refine pv_ifnull (pc := 31) dX11_goOn_31 ?_
    refine pv_iload_6 (pc := 34) dX11_goOn_34 ?_
    refine pv_iload_3 (pc := 36) dX11_goOn_36 ?_
    refine pv_icmp_ge (pc := 37) (tgt := 65) dX11_goOn_37 (by decide) (fun h37 => absurd h37 (not_not_intro (by rw [i_lt, i_of (by omega)]; omega))) (fun h37 => ?_)
    refine pv_aload_1 (pc := 40) dX11_goOn_40 ?_
    refine pv_aload_0 (pc := 41) dX11_goOn_41 ?_
    refine pv_aload_1 (pc := 42) dX11_goOn_42 ?_
    refine pv_aload_5 (pc := 43) dX11_goOn_43 ?_
    refine pv_iload_6 (pc := 45) dX11_goOn_45 ?_
    refine pv_callV1 (pc := 47) dX11_goOn_47 mgX8_asInt lv_X11_398_8 (by omega) (sx_sh hX.1 hs8) (by omega) (c_X8_asInt hT hR hs8) rfl rfl (Nat.le_of_ble_eq_true rfl) ?_
    have hsz := w_bars_size hW hX hb
    have hi160 : i < 160 := by omega
    have hhas : x_has I s.toNatClampNeg (Int32.ofNat i) = true := x_hasI (by rw [hf.1 _ _ (by omega) (by omega)]; exact hsz.1) (by omega) (by omega)
    refine pv_topv2 (y := (K (1 + s.toNatClampNeg) i).toInt32) (by rw [if_pos hhas, i_nat (by omega), hf.2 _ _ (by omega), hsz.2 i hi160]) ?_
    obtain ⟨y1, y2, y3, y4, y5, y6, y7⟩ := id hx
    by_cases hF : w_isF J (K (1 + s.toNatClampNeg) i).toInt32
    · obtain ⟨x, fx1, fx2, fx3, fx4, fx5, fx6, fx7, fx8, hfb⟩ := hX.2.2.2.1 _ (hF.nat hW).2
      have hk1 := (hW.2.1 _ (hF.nat hW).2).1
      have hk2 := (hW.2.1 _ (hF.nat hW).2).2.1
      have fx7 := (hf.1 x 2 (by omega) (by omega)).trans fx7
      have fx8 := (hf.1 x 3 (by omega) (by omega)).trans fx8
      refine pv_callV1 (pc := 50) dX11_goOn_50 mgX11_figureAt lv_X11_114_11 (by decide) (sx_16 hT) (by omega) (c_X11_figureAt1 hT hR hh.1 hh.2.2.1 (hF.nat hW).1 (by rw [y3]; exact hF.2) fx1) rfl rfl (Nat.le_of_ble_eq_true rfl) ?_
      refine pv_callVq (pc := 53) dX11_goOn_53 mgX4_dance lv_X11_196_4 hh.1 hh.2.2.1 (by omega) (c_X4_dance (k := J 1 (K (1 + s.toNatClampNeg) i).toInt32.toNatClampNeg) (a := J 2 (K (1 + s.toNatClampNeg) i).toInt32.toNatClampNeg) (cs := J 3 (K (1 + s.toNatClampNeg) i).toInt32.toNatClampNeg) hh hx hk1 hk2 fx2 fx4 fx7 fx8 (by omega)) rfl rfl (by decide) (fun v t I L Rf hq => ?_)
      obtain ⟨rfl, rfl, hf2, ho⟩ := hq
      rcases ho with ⟨e1, rfl, e2⟩ | ⟨e1, rfl, rfl, rfl⟩
      · skip
        refine pv_if_eq (pc := 56) (tgt := 65) dX11_goOn_56 (by decide) (fun q => absurd q (by decide)) (fun _ => ?_)
        refine pv_iinc_6 (pc := 59) (v := _ + 1) dX11_goOn_59 rfl (by decide) rfl ?_
        refine pv_goto (pc := 62) (tgt := 29) dX11_goOn_62 (by decide) ?_
        rw [i_inc]
        have ecan : y_can J (K (1 + s.toNatClampNeg) i).toInt32 s1 = true := by unfold y_can; rw [decide_eq_true hF.1, decide_eq_true hF.2, e1]; rfl
        refine ih (i + 1) (y_fg J (K (1 + s.toNatClampNeg) i).toInt32.toNatClampNeg s1) _ _ (by omega) e2 ((hf.tr (fH.rf)).tr hf2) ?_
        rw [y_led, if_pos ecan] at hQ
        exact hQ
      · skip
        refine pv_if_eq (pc := 56) (tgt := 65) dX11_goOn_56 (by decide) (fun _ => ?_) (fun q => absurd q (by decide))
        have ecan : ¬ y_can J (K (1 + s.toNatClampNeg) i).toInt32 s1 = true := by unfold y_can; rw [e1, Bool.and_false]; decide
        rw [y_led, if_neg ecan] at hQ
        exact hQ _ _ hx hf
    · skip
      refine pv_callV1 (pc := 50) dX11_goOn_50 mgX11_figureAt lv_X11_114_11 (by decide) (sx_16 hT) (by omega) (c_X11_figureAt0 hT hR hh.1 hh.2.2.1 (fun z => hF ⟨z.1, by rw [← y3]; exact z.2.1⟩)) rfl rfl (Nat.le_of_ble_eq_true rfl) ?_
      refine pv_callV1 (pc := 53) dX11_goOn_53 mgX4_dance lv_X11_196_4 hh.1 hh.2.2.1 (by omega) (c_X4_danceN hh) rfl rfl (by decide) ?_
      refine pv_if_eq (pc := 56) (tgt := 65) dX11_goOn_56 (by decide) (fun _ => ?_) (fun q => absurd q (by decide))
      have ecan : ¬ y_can J (K (1 + s.toNatClampNeg) i).toInt32 s1 = true := fun z => hF (by
        unfold y_can at z
        simp only [Bool.and_eq_true, decide_eq_true_eq] at z
        exact z.1)
      rw [y_led, if_neg ecan] at hQ
      exact hQ I L hx hf

set_option maxRecDepth 100000 in
set_option maxHeartbeats 4000000 in
theorem l_out {G : pv_G} {d : Nat} {Q : pv_Q} {J : pv_I} {K : pv_L} {h : Nat} {s n sd : Int32} {T : Nat} {t : pv_T} {I0 : pv_I} {L0 : pv_L} {Rf : pv_R} (hW : WF J K) (hX : RX J K t I0 L0 Rf) (hh : hl_ok t Rf h) (h25 : h = 25 ∨ h = 27) (hb : w_bars J s n = 0) (hT2 : T < 100000) (hd : 12 ≤ d) : ∀ (m tm i : Nat) (s1 : YS) (I : pv_I) (L : pv_L), tm + m = T → i ≤ n.toNatClampNeg → XY h (J 0 0) sd s1 I L → fH h I0 L0 I L → (∀ I L, XY h (J 0 0) sd (y_go J (K (1 + s.toNatClampNeg)) n.toNatClampNeg m i s1).2 I L → fH h I0 L0 I L → Q (some (.int (Int32.ofNat (y_go J (K (1 + s.toNatClampNeg)) n.toNatClampNeg m i s1).1))) t I L Rf) →
    pv_V G mX11_goOn d 0 0 Q 0 0 13 [.ref 16, .ref h, .int s, .int n, .int (Int32.ofNat T), .ref (45 + 2 * s.toNatClampNeg), .int (Int32.ofNat i), .int (Int32.ofNat tm)] [] t I L Rf := by
  have hT := hX.1
  have hR := hX.2.1
  obtain ⟨hin, hn0, hn160⟩ := w_bars_0 hW hb
  have hs8 : s.toNatClampNeg < 8 := (pv_in_lt hin).2.2.1
  have hnl := i_lit n
  intro m
  induction m with
  | zero =>
    intro tm i s1 I L htm hi hx hf hQ
    by_cases hin2 : i = n.toNatClampNeg
    · skip
      refine pv_iload_6 (pc := 13) dX11_goOn_13 ?_
      refine pv_iload_3 (pc := 15) dX11_goOn_15 ?_
      refine pv_icmp_ne (pc := 16) (tgt := 71) dX11_goOn_16 (by decide) (fun h16 => absurd h16 (not_not_intro (by rw [← Int32.toInt_inj, i_of (by omega)]; omega))) (fun h16 => ?_)
      refine pv_iload_7 (pc := 19) dX11_goOn_19 ?_
      refine pv_iload_4 (pc := 21) dX11_goOn_21 ?_
      refine pv_icmp_ge (pc := 23) (tgt := 71) dX11_goOn_23 (by decide) (fun h23 => ?_) (fun h23 => absurd h23 (by rw [i_ltn (by omega) (by omega)]; omega))
      refine pv_iload_6 (pc := 71) dX11_goOn_71 ?_
      refine pv_iret (pc := 73) dX11_goOn_73 rfl rfl ?_
      exact hQ I L hx hf
    · skip
      refine pv_iload_6 (pc := 13) dX11_goOn_13 ?_
      refine pv_iload_3 (pc := 15) dX11_goOn_15 ?_
      refine pv_icmp_ne (pc := 16) (tgt := 71) dX11_goOn_16 (by decide) (fun h16 => ?_) (fun h16 => absurd h16 (by intro z; rw [← Int32.toInt_inj, i_of (by omega)] at z; omega))
      refine pv_iload_6 (pc := 71) dX11_goOn_71 ?_
      refine pv_iret (pc := 73) dX11_goOn_73 rfl rfl ?_
      exact hQ I L hx hf
  | succ m ih =>
    intro tm i s1 I L htm hi hx hf hQ
    by_cases hin2 : i = n.toNatClampNeg
    · skip
      refine pv_iload_6 (pc := 13) dX11_goOn_13 ?_
      refine pv_iload_3 (pc := 15) dX11_goOn_15 ?_
      refine pv_icmp_ne (pc := 16) (tgt := 71) dX11_goOn_16 (by decide) (fun h16 => absurd h16 (not_not_intro (by rw [← Int32.toInt_inj, i_of (by omega)]; omega))) (fun h16 => ?_)
      refine pv_iload_7 (pc := 19) dX11_goOn_19 ?_
      refine pv_iload_4 (pc := 21) dX11_goOn_21 ?_
      refine pv_icmp_ge (pc := 23) (tgt := 71) dX11_goOn_23 (by decide) (fun h23 => absurd h23 (not_not_intro (by rw [i_ltn (by omega) (by omega)]; omega))) (fun h23 => ?_)
      refine pv_iconst (pc := 26) (v := 0) dX11_goOn_26 (by decide) ?_
      refine pv_istore_6 (pc := 27) dX11_goOn_27 (by decide) rfl ?_
      rw [y_go, if_pos hin2] at hQ
      refine l_inn hW hX hh h25 hb hd n.toNatClampNeg 0 s1 I L (by omega) hx hf (fun I L hx hf => ?_)
      refine pv_iinc_7 (pc := 65) (v := _ + 1) dX11_goOn_65 rfl (by decide) rfl ?_
      refine pv_goto (pc := 68) (tgt := 13) dX11_goOn_68 (by decide) ?_
      rw [i_inc]
      exact ih (tm + 1) _ _ I L (by omega) (by have := (y_led_le J (K (1 + s.toNatClampNeg)) n.toNatClampNeg 0 s1).2; omega) hx hf hQ
    · skip
      refine pv_iload_6 (pc := 13) dX11_goOn_13 ?_
      refine pv_iload_3 (pc := 15) dX11_goOn_15 ?_
      refine pv_icmp_ne (pc := 16) (tgt := 71) dX11_goOn_16 (by decide) (fun h16 => ?_) (fun h16 => absurd h16 (by intro z; rw [← Int32.toInt_inj, i_of (by omega)] at z; omega))
      refine pv_iload_6 (pc := 71) dX11_goOn_71 ?_
      refine pv_iret (pc := 73) dX11_goOn_73 rfl rfl ?_
      rw [y_go, if_neg hin2] at hQ
      exact hQ I L hx hf

theorem pv_ls {G : pv_G} {M : pv_Mth} {d mc ms bc bs pc : Nat} {Q : pv_Q} {ls ls1 st : List Value} {t : pv_T} {I : pv_I} {L : pv_L} {Rf : pv_R} (h : ls = ls1) (k : pv_V G M d mc ms Q bc bs pc ls1 st t I L Rf) : pv_V G M d mc ms Q bc bs pc ls st t I L Rf := h ▸ k
set_option maxRecDepth 100000 in
set_option maxHeartbeats 4000000 in
theorem c_X11_goOn {G : pv_G} {d : Nat} {J : pv_I} {K : pv_L} {h T : Nat} {s n sd : Int32} {s1 : YS} {t : pv_T} {I : pv_I} {L : pv_L} {Rf : pv_R} (hW : WF J K) (hX : RX J K t I L Rf) (hh : hl_ok t Rf h) (h25 : h = 25 ∨ h = 27) (hb : w_bars J s n = 0) (hT2 : T < 100000) (hx : XY h (J 0 0) sd s1 I L) (hd : 14 ≤ d) : pv_Mt G mX11_goOn d 0 0 [.ref 16, .ref h, .int s, .int n, .int (Int32.ofNat T)] t I L Rf (fun v t1 I1 L1 R1 => v = some (.int (Int32.ofNat (y_go J (K (1 + s.toNatClampNeg)) n.toNatClampNeg T n.toNatClampNeg s1).1)) ∧ t1 = t ∧ R1 = Rf ∧ fH h I L I1 L1 ∧ XY h (J 0 0) sd (y_go J (K (1 + s.toNatClampNeg)) n.toNatClampNeg T n.toNatClampNeg s1).2 I1 L1) := by
  refine pv_mt mgX11_goOn.2.2.2.2.2 [.ref 16, .ref h, .int s, .int n, .int (Int32.ofNat T), .retAddr 0, .retAddr 0, .retAddr 0] rfl (Nat.le_of_ble_eq_true rfl) ?_
  have hT := hX.1
  have hR := hX.2.1
  obtain ⟨hin, hn0, hn160⟩ := w_bars_0 hW hb
  have hs8 : s.toNatClampNeg < 8 := (pv_in_lt hin).2.2.1
  have hnl := i_lit n
  refine pv_aload_0 (pc := 0) dX11_goOn_0 ?_
  refine pv_iload_2 (pc := 1) dX11_goOn_1 ?_
  refine pv_callV1 (pc := 2) dX11_goOn_2 mgX11_shelfAt lv_X11_66_11 (by decide) (sx_16 hT) (by omega) (c_X11_shelfAt1 hT hR hin) rfl rfl (by decide) ?_
  refine pv_astore_5 (pc := 5) dX11_goOn_5 (by decide) rfl ?_
  refine pv_iload_3 (pc := 7) dX11_goOn_7 ?_
  refine pv_istore_6 (pc := 8) dX11_goOn_8 (by decide) rfl ?_
  refine pv_iconst (pc := 10) (v := 0) dX11_goOn_10 (by decide) ?_
  refine pv_istore_7 (pc := 11) dX11_goOn_11 (by decide) rfl ?_
  have hni : n = Int32.ofNat n.toNatClampNeg := by rw [← Int32.toInt_inj, i_of (by omega)]; omega
  refine pv_ls (ls1 := [.ref 16, .ref h, .int s, .int n, .int (Int32.ofNat T), .ref (45 + 2 * s.toNatClampNeg), .int (Int32.ofNat n.toNatClampNeg), .int (Int32.ofNat 0)]) (by rw [← hni]; rfl) ?_
  exact l_out hW hX hh h25 hb hT2 (by omega) T 0 n.toNatClampNeg s1 I L (by omega) (Nat.le_refl _) hx fH.rf (fun I L hx hf => ⟨rfl, rfl, rfl, hf, hx⟩)

def y_0 (J : pv_I) (K : pv_L) : YS := (J 0 1, J 0 2, K 0 0, K 0 1, J 4)
def y_try (J : pv_I) (K : pv_L) (s n : Int32) : Nat × YS := y_led J (K (1 + s.toNatClampNeg)) n.toNatClampNeg 0 (y_0 J K)
set_option maxRecDepth 100000 in
set_option maxHeartbeats 4000000 in
theorem c_try25 {G : pv_G} {d : Nat} {J : pv_I} {K : pv_L} {s n : Int32} {t : pv_T} {I : pv_I} {L : pv_L} {Rf : pv_R} (hW : WF J K) (hX : RX J K t I L Rf) (hb : w_bars J s n = 0) (hd : 16 ≤ d) : pv_Mt G mX11_tryRow d 0 0 [.ref 16, .ref 25, .int s, .int n] t I L Rf (fun v t1 I1 L1 R1 => v = some (.int (Int32.ofNat (y_try J K s n).1)) ∧ t1 = t ∧ R1 = Rf ∧ fH 25 I L I1 L1 ∧ XY 25 (J 0 0) (J 0 3) (y_try J K s n).2 I1 L1) := by
  refine pv_mt mgX11_tryRow.2.2.2.2.2 [.ref 16, .ref 25, .int s, .int n] rfl (Nat.le_of_ble_eq_true rfl) ?_
  have hT := hX.1
  have hR := hX.2.1
  refine pv_aload_1 (pc := 0) dX11_tryRow_0 ?_
  refine pv_aload_0 (pc := 1) dX11_tryRow_1 ?_
  refine pv_getR (pc := 2) dX11_tryRow_2 fg_X11_31_11 rfl (by decide) (sx_16 hT) (rx_16_4 hR) ?_
  refine pv_callVq (pc := 5) dX11_tryRow_5 mgX4_takeFrom lv_X11_169_4 (by decide) (sx_25 hT) (by omega) (c_tk_25_21 hT hR hX.2.2.1 (by omega)) rfl rfl (by decide) (fun v t I L Rf hq => ?_)
  obtain ⟨rfl, rfl, rfl, hf, hx⟩ := hq
  refine pv_aload_0 (pc := 8) dX11_tryRow_8 ?_
  refine pv_aload_1 (pc := 9) dX11_tryRow_9 ?_
  refine pv_iload_2 (pc := 10) dX11_tryRow_10 ?_
  refine pv_iload_3 (pc := 11) dX11_tryRow_11 ?_
  refine pv_iconst (pc := 12) (v := 1) dX11_tryRow_12 (by decide) ?_
  refine pv_callVq (pc := 13) dX11_tryRow_13 mgX11_goOn lv_X11_401_11 (by decide) (sx_16 hT) (by omega) (c_X11_goOn (T := 1) (sd := J 0 3) (s1 := y_0 J K) hW (hX.scr (hf.kC (by decide))) (hl_25 hT hR) (by decide) hb (by decide) hx (by omega)) rfl rfl (by decide) (fun v t I L Rf hq => ?_)
  obtain ⟨rfl, rfl, rfl, hf2, hx2⟩ := hq
  refine pv_iret (pc := 16) dX11_tryRow_16 rfl rfl ?_
  have e : y_go J (K (1 + s.toNatClampNeg)) n.toNatClampNeg 1 n.toNatClampNeg (y_0 J K) = y_try J K s n := by rw [y_go, if_pos rfl]; rfl
  rw [e] at hx2 ⊢
  exact ⟨rfl, rfl, rfl, hf.tr hf2, hx2⟩

set_option maxRecDepth 100000 in
set_option maxHeartbeats 4000000 in
theorem c_try27 {G : pv_G} {d : Nat} {J : pv_I} {K : pv_L} {s n : Int32} {t : pv_T} {I : pv_I} {L : pv_L} {Rf : pv_R} (hW : WF J K) (hX : RX J K t I L Rf) (hb : w_bars J s n = 0) (hd : 16 ≤ d) : pv_Mt G mX11_tryRow d 0 0 [.ref 16, .ref 27, .int s, .int n] t I L Rf (fun v t1 I1 L1 R1 => v = some (.int (Int32.ofNat (y_try J K s n).1)) ∧ t1 = t ∧ R1 = Rf ∧ fH 27 I L I1 L1 ∧ XY 27 (J 0 0) (J 0 3) (y_try J K s n).2 I1 L1) := by
  refine pv_mt mgX11_tryRow.2.2.2.2.2 [.ref 16, .ref 27, .int s, .int n] rfl (Nat.le_of_ble_eq_true rfl) ?_
  have hT := hX.1
  have hR := hX.2.1
  refine pv_aload_1 (pc := 0) dX11_tryRow_0 ?_
  refine pv_aload_0 (pc := 1) dX11_tryRow_1 ?_
  refine pv_getR (pc := 2) dX11_tryRow_2 fg_X11_31_11 rfl (by decide) (sx_16 hT) (rx_16_4 hR) ?_
  refine pv_callVq (pc := 5) dX11_tryRow_5 mgX4_takeFrom lv_X11_169_4 (by decide) (sx_27 hT) (by omega) (c_tk_27_21 hT hR hX.2.2.1 (by omega)) rfl rfl (by decide) (fun v t I L Rf hq => ?_)
  obtain ⟨rfl, rfl, rfl, hf, hx⟩ := hq
  refine pv_aload_0 (pc := 8) dX11_tryRow_8 ?_
  refine pv_aload_1 (pc := 9) dX11_tryRow_9 ?_
  refine pv_iload_2 (pc := 10) dX11_tryRow_10 ?_
  refine pv_iload_3 (pc := 11) dX11_tryRow_11 ?_
  refine pv_iconst (pc := 12) (v := 1) dX11_tryRow_12 (by decide) ?_
  refine pv_callVq (pc := 13) dX11_tryRow_13 mgX11_goOn lv_X11_401_11 (by decide) (sx_16 hT) (by omega) (c_X11_goOn (T := 1) (sd := J 0 3) (s1 := y_0 J K) hW (hX.scr (hf.kC (by decide))) (hl_27 hT hR) (by decide) hb (by decide) hx (by omega)) rfl rfl (by decide) (fun v t I L Rf hq => ?_)
  obtain ⟨rfl, rfl, rfl, hf2, hx2⟩ := hq
  refine pv_iret (pc := 16) dX11_tryRow_16 rfl rfl ?_
  have e : y_go J (K (1 + s.toNatClampNeg)) n.toNatClampNeg 1 n.toNatClampNeg (y_0 J K) = y_try J K s n := by rw [y_go, if_pos rfl]; rfl
  rw [e] at hx2 ⊢
  exact ⟨rfl, rfl, rfl, hf.tr hf2, hx2⟩

