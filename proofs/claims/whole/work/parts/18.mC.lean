/-! the reference's figures, danced in thought -/
set_option maxRecDepth 100000 in
set_option maxHeartbeats 4000000 in
theorem c_X12_goesOn0 {G : pv_G} {d : Nat}  {t : pv_T} {I : pv_I} {L : pv_L} {Rf : pv_R} (hT : sh_ok t) (hR : rf_ok Rf) : pv_Mt G mX12_goesOn d 0 0 [.ref 61, .int 0] t I L Rf (pv_is none t (m_at I (h_on 0 (I 73))) (L) Rf) := by
  refine pv_mt mgX12_goesOn.2.2.2.2.2 [.ref 61, .int 0, .retAddr 0, .retAddr 0, .retAddr 0, .retAddr 0] rfl (Nat.le_of_ble_eq_true rfl) ?_
  refine pv_aload_0 (pc := 0) dX12_goesOn_0 ?_
  refine pv_getR (pc := 1) dX12_goesOn_1 fg_X12_55_12 rfl (by decide) (sx_61 hT) (rx_61_20 hR) ?_
  refine pv_iconst (pc := 4) (v := 0) dX12_goesOn_4 (by decide) ?_
  refine pv_ialoadj (pc := 5) dX12_goesOn_5 (sx_73 hT) (j := 0) (by decide) (by unfold vp_in; decide) ?_
  refine pv_istore_2 (pc := 6) dX12_goesOn_6 (by decide) rfl ?_
  refine pv_aload_0 (pc := 7) dX12_goesOn_7 ?_
  refine pv_getR (pc := 8) dX12_goesOn_8 fg_X12_55_12 rfl (by decide) (sx_61 hT) (rx_61_20 hR) ?_
  refine pv_iconst (pc := 11) (v := 1) dX12_goesOn_11 (by decide) ?_
  refine pv_ialoadj (pc := 12) dX12_goesOn_12 (sx_73 hT) (j := 1) (by decide) (by unfold vp_in; decide) ?_
  refine pv_istore_3 (pc := 13) dX12_goesOn_13 (by decide) rfl ?_
  refine pv_aload_0 (pc := 14) dX12_goesOn_14 ?_
  refine pv_getR (pc := 15) dX12_goesOn_15 fg_X12_55_12 rfl (by decide) (sx_61 hT) (rx_61_20 hR) ?_
  refine pv_iconst (pc := 18) (v := 2) dX12_goesOn_18 (by decide) ?_
  refine pv_ialoadj (pc := 19) dX12_goesOn_19 (sx_73 hT) (j := 2) (by decide) (by unfold vp_in; decide) ?_
  refine pv_istore_4 (pc := 20) dX12_goesOn_20 (by decide) rfl ?_
  refine pv_aload_0 (pc := 22) dX12_goesOn_22 ?_
  refine pv_getR (pc := 23) dX12_goesOn_23 fg_X12_55_12 rfl (by decide) (sx_61 hT) (rx_61_20 hR) ?_
  refine pv_iconst (pc := 26) (v := 3) dX12_goesOn_26 (by decide) ?_
  refine pv_ialoadj (pc := 27) dX12_goesOn_27 (sx_73 hT) (j := 3) (by decide) (by unfold vp_in; decide) ?_
  refine pv_istore_5 (pc := 28) dX12_goesOn_28 (by decide) rfl ?_
  refine pv_aload_0 (pc := 30) dX12_goesOn_30 ?_
  refine pv_getR (pc := 31) dX12_goesOn_31 fg_X12_55_12 rfl (by decide) (sx_61 hT) (rx_61_20 hR) ?_
  refine pv_iload_1 (pc := 34) dX12_goesOn_34 ?_
  refine pv_iconst (pc := 35) (v := 4) dX12_goesOn_35 (by decide) ?_
  refine pv_irem (pc := 36) dX12_goesOn_36 (by decide) ?_
  refine pv_topv (y := 0) (by decide) ?_
  refine pv_iload_2 (pc := 37) dX12_goesOn_37 ?_
  refine pv_iastorej (pc := 38) dX12_goesOn_38 (by decide) (sx_73 hT) (j := 0) (by decide) (by unfold vp_in; decide) ?_
  refine pv_aload_0 (pc := 39) dX12_goesOn_39 ?_
  refine pv_getR (pc := 40) dX12_goesOn_40 fg_X12_55_12 rfl (by decide) (sx_61 hT) (rx_61_20 hR) ?_
  refine pv_iconst (pc := 43) (v := 1) dX12_goesOn_43 (by decide) ?_
  refine pv_iload_1 (pc := 44) dX12_goesOn_44 ?_
  refine pv_iadd (pc := 45) dX12_goesOn_45 ?_
  refine pv_topv (y := 1) (by decide) ?_
  refine pv_iconst (pc := 46) (v := 4) dX12_goesOn_46 (by decide) ?_
  refine pv_irem (pc := 47) dX12_goesOn_47 (by decide) ?_
  refine pv_topv (y := 1) (by decide) ?_
  refine pv_iload_3 (pc := 48) dX12_goesOn_48 ?_
  refine pv_iastorej (pc := 49) dX12_goesOn_49 (by decide) (sx_73 hT) (j := 1) (by decide) (by unfold vp_in; decide) ?_
  refine pv_aload_0 (pc := 50) dX12_goesOn_50 ?_
  refine pv_getR (pc := 51) dX12_goesOn_51 fg_X12_55_12 rfl (by decide) (sx_61 hT) (rx_61_20 hR) ?_
  refine pv_iconst (pc := 54) (v := 2) dX12_goesOn_54 (by decide) ?_
  refine pv_iload_1 (pc := 55) dX12_goesOn_55 ?_
  refine pv_iadd (pc := 56) dX12_goesOn_56 ?_
  refine pv_topv (y := 2) (by decide) ?_
  refine pv_iconst (pc := 57) (v := 4) dX12_goesOn_57 (by decide) ?_
  refine pv_irem (pc := 58) dX12_goesOn_58 (by decide) ?_
  refine pv_topv (y := 2) (by decide) ?_
  refine pv_iload_4 (pc := 59) dX12_goesOn_59 ?_
  refine pv_iastorej (pc := 61) dX12_goesOn_61 (by decide) (sx_73 hT) (j := 2) (by decide) (by unfold vp_in; decide) ?_
  refine pv_aload_0 (pc := 62) dX12_goesOn_62 ?_
  refine pv_getR (pc := 63) dX12_goesOn_63 fg_X12_55_12 rfl (by decide) (sx_61 hT) (rx_61_20 hR) ?_
  refine pv_iconst (pc := 66) (v := 3) dX12_goesOn_66 (by decide) ?_
  refine pv_iload_1 (pc := 67) dX12_goesOn_67 ?_
  refine pv_iadd (pc := 68) dX12_goesOn_68 ?_
  refine pv_topv (y := 3) (by decide) ?_
  refine pv_iconst (pc := 69) (v := 4) dX12_goesOn_69 (by decide) ?_
  refine pv_irem (pc := 70) dX12_goesOn_70 (by decide) ?_
  refine pv_topv (y := 3) (by decide) ?_
  refine pv_iload_5 (pc := 71) dX12_goesOn_71 ?_
  refine pv_iastorej (pc := 73) dX12_goesOn_73 (by decide) (sx_73 hT) (j := 3) (by decide) (by unfold vp_in; decide) ?_
  refine pv_vret (pc := 74) dX12_goesOn_74 rfl ?_
  refine ⟨rfl, rfl, m_at_eq (fun a ha => by simp only [pv_u_ne _ _ ha]) (fun j hj => by match j, hj with | 0, _ => rfl | 1, _ => rfl | 2, _ => rfl | 3, _ => rfl) (fun j hj => by simp only [pv_u_app]; repeat rw [if_neg (by omega)]), rfl, rfl⟩

set_option maxRecDepth 100000 in
set_option maxHeartbeats 4000000 in
theorem c_X12_goesOn1 {G : pv_G} {d : Nat}  {t : pv_T} {I : pv_I} {L : pv_L} {Rf : pv_R} (hT : sh_ok t) (hR : rf_ok Rf) : pv_Mt G mX12_goesOn d 0 0 [.ref 61, .int 1] t I L Rf (pv_is none t (m_at I (h_on 1 (I 73))) (L) Rf) := by
  refine pv_mt mgX12_goesOn.2.2.2.2.2 [.ref 61, .int 1, .retAddr 0, .retAddr 0, .retAddr 0, .retAddr 0] rfl (Nat.le_of_ble_eq_true rfl) ?_
  refine pv_aload_0 (pc := 0) dX12_goesOn_0 ?_
  refine pv_getR (pc := 1) dX12_goesOn_1 fg_X12_55_12 rfl (by decide) (sx_61 hT) (rx_61_20 hR) ?_
  refine pv_iconst (pc := 4) (v := 0) dX12_goesOn_4 (by decide) ?_
  refine pv_ialoadj (pc := 5) dX12_goesOn_5 (sx_73 hT) (j := 0) (by decide) (by unfold vp_in; decide) ?_
  refine pv_istore_2 (pc := 6) dX12_goesOn_6 (by decide) rfl ?_
  refine pv_aload_0 (pc := 7) dX12_goesOn_7 ?_
  refine pv_getR (pc := 8) dX12_goesOn_8 fg_X12_55_12 rfl (by decide) (sx_61 hT) (rx_61_20 hR) ?_
  refine pv_iconst (pc := 11) (v := 1) dX12_goesOn_11 (by decide) ?_
  refine pv_ialoadj (pc := 12) dX12_goesOn_12 (sx_73 hT) (j := 1) (by decide) (by unfold vp_in; decide) ?_
  refine pv_istore_3 (pc := 13) dX12_goesOn_13 (by decide) rfl ?_
  refine pv_aload_0 (pc := 14) dX12_goesOn_14 ?_
  refine pv_getR (pc := 15) dX12_goesOn_15 fg_X12_55_12 rfl (by decide) (sx_61 hT) (rx_61_20 hR) ?_
  refine pv_iconst (pc := 18) (v := 2) dX12_goesOn_18 (by decide) ?_
  refine pv_ialoadj (pc := 19) dX12_goesOn_19 (sx_73 hT) (j := 2) (by decide) (by unfold vp_in; decide) ?_
  refine pv_istore_4 (pc := 20) dX12_goesOn_20 (by decide) rfl ?_
  refine pv_aload_0 (pc := 22) dX12_goesOn_22 ?_
  refine pv_getR (pc := 23) dX12_goesOn_23 fg_X12_55_12 rfl (by decide) (sx_61 hT) (rx_61_20 hR) ?_
  refine pv_iconst (pc := 26) (v := 3) dX12_goesOn_26 (by decide) ?_
  refine pv_ialoadj (pc := 27) dX12_goesOn_27 (sx_73 hT) (j := 3) (by decide) (by unfold vp_in; decide) ?_
  refine pv_istore_5 (pc := 28) dX12_goesOn_28 (by decide) rfl ?_
  refine pv_aload_0 (pc := 30) dX12_goesOn_30 ?_
  refine pv_getR (pc := 31) dX12_goesOn_31 fg_X12_55_12 rfl (by decide) (sx_61 hT) (rx_61_20 hR) ?_
  refine pv_iload_1 (pc := 34) dX12_goesOn_34 ?_
  refine pv_iconst (pc := 35) (v := 4) dX12_goesOn_35 (by decide) ?_
  refine pv_irem (pc := 36) dX12_goesOn_36 (by decide) ?_
  refine pv_topv (y := 1) (by decide) ?_
  refine pv_iload_2 (pc := 37) dX12_goesOn_37 ?_
  refine pv_iastorej (pc := 38) dX12_goesOn_38 (by decide) (sx_73 hT) (j := 1) (by decide) (by unfold vp_in; decide) ?_
  refine pv_aload_0 (pc := 39) dX12_goesOn_39 ?_
  refine pv_getR (pc := 40) dX12_goesOn_40 fg_X12_55_12 rfl (by decide) (sx_61 hT) (rx_61_20 hR) ?_
  refine pv_iconst (pc := 43) (v := 1) dX12_goesOn_43 (by decide) ?_
  refine pv_iload_1 (pc := 44) dX12_goesOn_44 ?_
  refine pv_iadd (pc := 45) dX12_goesOn_45 ?_
  refine pv_topv (y := 2) (by decide) ?_
  refine pv_iconst (pc := 46) (v := 4) dX12_goesOn_46 (by decide) ?_
  refine pv_irem (pc := 47) dX12_goesOn_47 (by decide) ?_
  refine pv_topv (y := 2) (by decide) ?_
  refine pv_iload_3 (pc := 48) dX12_goesOn_48 ?_
  refine pv_iastorej (pc := 49) dX12_goesOn_49 (by decide) (sx_73 hT) (j := 2) (by decide) (by unfold vp_in; decide) ?_
  refine pv_aload_0 (pc := 50) dX12_goesOn_50 ?_
  refine pv_getR (pc := 51) dX12_goesOn_51 fg_X12_55_12 rfl (by decide) (sx_61 hT) (rx_61_20 hR) ?_
  refine pv_iconst (pc := 54) (v := 2) dX12_goesOn_54 (by decide) ?_
  refine pv_iload_1 (pc := 55) dX12_goesOn_55 ?_
  refine pv_iadd (pc := 56) dX12_goesOn_56 ?_
  refine pv_topv (y := 3) (by decide) ?_
  refine pv_iconst (pc := 57) (v := 4) dX12_goesOn_57 (by decide) ?_
  refine pv_irem (pc := 58) dX12_goesOn_58 (by decide) ?_
  refine pv_topv (y := 3) (by decide) ?_
  refine pv_iload_4 (pc := 59) dX12_goesOn_59 ?_
  refine pv_iastorej (pc := 61) dX12_goesOn_61 (by decide) (sx_73 hT) (j := 3) (by decide) (by unfold vp_in; decide) ?_
  refine pv_aload_0 (pc := 62) dX12_goesOn_62 ?_
  refine pv_getR (pc := 63) dX12_goesOn_63 fg_X12_55_12 rfl (by decide) (sx_61 hT) (rx_61_20 hR) ?_
  refine pv_iconst (pc := 66) (v := 3) dX12_goesOn_66 (by decide) ?_
  refine pv_iload_1 (pc := 67) dX12_goesOn_67 ?_
  refine pv_iadd (pc := 68) dX12_goesOn_68 ?_
  refine pv_topv (y := 4) (by decide) ?_
  refine pv_iconst (pc := 69) (v := 4) dX12_goesOn_69 (by decide) ?_
  refine pv_irem (pc := 70) dX12_goesOn_70 (by decide) ?_
  refine pv_topv (y := 0) (by decide) ?_
  refine pv_iload_5 (pc := 71) dX12_goesOn_71 ?_
  refine pv_iastorej (pc := 73) dX12_goesOn_73 (by decide) (sx_73 hT) (j := 0) (by decide) (by unfold vp_in; decide) ?_
  refine pv_vret (pc := 74) dX12_goesOn_74 rfl ?_
  refine ⟨rfl, rfl, m_at_eq (fun a ha => by simp only [pv_u_ne _ _ ha]) (fun j hj => by match j, hj with | 0, _ => rfl | 1, _ => rfl | 2, _ => rfl | 3, _ => rfl) (fun j hj => by simp only [pv_u_app]; repeat rw [if_neg (by omega)]), rfl, rfl⟩

set_option maxRecDepth 100000 in
set_option maxHeartbeats 4000000 in
theorem c_X12_goesOn2 {G : pv_G} {d : Nat}  {t : pv_T} {I : pv_I} {L : pv_L} {Rf : pv_R} (hT : sh_ok t) (hR : rf_ok Rf) : pv_Mt G mX12_goesOn d 0 0 [.ref 61, .int 2] t I L Rf (pv_is none t (m_at I (h_on 2 (I 73))) (L) Rf) := by
  refine pv_mt mgX12_goesOn.2.2.2.2.2 [.ref 61, .int 2, .retAddr 0, .retAddr 0, .retAddr 0, .retAddr 0] rfl (Nat.le_of_ble_eq_true rfl) ?_
  refine pv_aload_0 (pc := 0) dX12_goesOn_0 ?_
  refine pv_getR (pc := 1) dX12_goesOn_1 fg_X12_55_12 rfl (by decide) (sx_61 hT) (rx_61_20 hR) ?_
  refine pv_iconst (pc := 4) (v := 0) dX12_goesOn_4 (by decide) ?_
  refine pv_ialoadj (pc := 5) dX12_goesOn_5 (sx_73 hT) (j := 0) (by decide) (by unfold vp_in; decide) ?_
  refine pv_istore_2 (pc := 6) dX12_goesOn_6 (by decide) rfl ?_
  refine pv_aload_0 (pc := 7) dX12_goesOn_7 ?_
  refine pv_getR (pc := 8) dX12_goesOn_8 fg_X12_55_12 rfl (by decide) (sx_61 hT) (rx_61_20 hR) ?_
  refine pv_iconst (pc := 11) (v := 1) dX12_goesOn_11 (by decide) ?_
  refine pv_ialoadj (pc := 12) dX12_goesOn_12 (sx_73 hT) (j := 1) (by decide) (by unfold vp_in; decide) ?_
  refine pv_istore_3 (pc := 13) dX12_goesOn_13 (by decide) rfl ?_
  refine pv_aload_0 (pc := 14) dX12_goesOn_14 ?_
  refine pv_getR (pc := 15) dX12_goesOn_15 fg_X12_55_12 rfl (by decide) (sx_61 hT) (rx_61_20 hR) ?_
  refine pv_iconst (pc := 18) (v := 2) dX12_goesOn_18 (by decide) ?_
  refine pv_ialoadj (pc := 19) dX12_goesOn_19 (sx_73 hT) (j := 2) (by decide) (by unfold vp_in; decide) ?_
  refine pv_istore_4 (pc := 20) dX12_goesOn_20 (by decide) rfl ?_
  refine pv_aload_0 (pc := 22) dX12_goesOn_22 ?_
  refine pv_getR (pc := 23) dX12_goesOn_23 fg_X12_55_12 rfl (by decide) (sx_61 hT) (rx_61_20 hR) ?_
  refine pv_iconst (pc := 26) (v := 3) dX12_goesOn_26 (by decide) ?_
  refine pv_ialoadj (pc := 27) dX12_goesOn_27 (sx_73 hT) (j := 3) (by decide) (by unfold vp_in; decide) ?_
  refine pv_istore_5 (pc := 28) dX12_goesOn_28 (by decide) rfl ?_
  refine pv_aload_0 (pc := 30) dX12_goesOn_30 ?_
  refine pv_getR (pc := 31) dX12_goesOn_31 fg_X12_55_12 rfl (by decide) (sx_61 hT) (rx_61_20 hR) ?_
  refine pv_iload_1 (pc := 34) dX12_goesOn_34 ?_
  refine pv_iconst (pc := 35) (v := 4) dX12_goesOn_35 (by decide) ?_
  refine pv_irem (pc := 36) dX12_goesOn_36 (by decide) ?_
  refine pv_topv (y := 2) (by decide) ?_
  refine pv_iload_2 (pc := 37) dX12_goesOn_37 ?_
  refine pv_iastorej (pc := 38) dX12_goesOn_38 (by decide) (sx_73 hT) (j := 2) (by decide) (by unfold vp_in; decide) ?_
  refine pv_aload_0 (pc := 39) dX12_goesOn_39 ?_
  refine pv_getR (pc := 40) dX12_goesOn_40 fg_X12_55_12 rfl (by decide) (sx_61 hT) (rx_61_20 hR) ?_
  refine pv_iconst (pc := 43) (v := 1) dX12_goesOn_43 (by decide) ?_
  refine pv_iload_1 (pc := 44) dX12_goesOn_44 ?_
  refine pv_iadd (pc := 45) dX12_goesOn_45 ?_
  refine pv_topv (y := 3) (by decide) ?_
  refine pv_iconst (pc := 46) (v := 4) dX12_goesOn_46 (by decide) ?_
  refine pv_irem (pc := 47) dX12_goesOn_47 (by decide) ?_
  refine pv_topv (y := 3) (by decide) ?_
  refine pv_iload_3 (pc := 48) dX12_goesOn_48 ?_
  refine pv_iastorej (pc := 49) dX12_goesOn_49 (by decide) (sx_73 hT) (j := 3) (by decide) (by unfold vp_in; decide) ?_
  refine pv_aload_0 (pc := 50) dX12_goesOn_50 ?_
  refine pv_getR (pc := 51) dX12_goesOn_51 fg_X12_55_12 rfl (by decide) (sx_61 hT) (rx_61_20 hR) ?_
  refine pv_iconst (pc := 54) (v := 2) dX12_goesOn_54 (by decide) ?_
  refine pv_iload_1 (pc := 55) dX12_goesOn_55 ?_
  refine pv_iadd (pc := 56) dX12_goesOn_56 ?_
  refine pv_topv (y := 4) (by decide) ?_
  refine pv_iconst (pc := 57) (v := 4) dX12_goesOn_57 (by decide) ?_
  refine pv_irem (pc := 58) dX12_goesOn_58 (by decide) ?_
  refine pv_topv (y := 0) (by decide) ?_
  refine pv_iload_4 (pc := 59) dX12_goesOn_59 ?_
  refine pv_iastorej (pc := 61) dX12_goesOn_61 (by decide) (sx_73 hT) (j := 0) (by decide) (by unfold vp_in; decide) ?_
  refine pv_aload_0 (pc := 62) dX12_goesOn_62 ?_
  refine pv_getR (pc := 63) dX12_goesOn_63 fg_X12_55_12 rfl (by decide) (sx_61 hT) (rx_61_20 hR) ?_
  refine pv_iconst (pc := 66) (v := 3) dX12_goesOn_66 (by decide) ?_
  refine pv_iload_1 (pc := 67) dX12_goesOn_67 ?_
  refine pv_iadd (pc := 68) dX12_goesOn_68 ?_
  refine pv_topv (y := 5) (by decide) ?_
  refine pv_iconst (pc := 69) (v := 4) dX12_goesOn_69 (by decide) ?_
  refine pv_irem (pc := 70) dX12_goesOn_70 (by decide) ?_
  refine pv_topv (y := 1) (by decide) ?_
  refine pv_iload_5 (pc := 71) dX12_goesOn_71 ?_
  refine pv_iastorej (pc := 73) dX12_goesOn_73 (by decide) (sx_73 hT) (j := 1) (by decide) (by unfold vp_in; decide) ?_
  refine pv_vret (pc := 74) dX12_goesOn_74 rfl ?_
  refine ⟨rfl, rfl, m_at_eq (fun a ha => by simp only [pv_u_ne _ _ ha]) (fun j hj => by match j, hj with | 0, _ => rfl | 1, _ => rfl | 2, _ => rfl | 3, _ => rfl) (fun j hj => by simp only [pv_u_app]; repeat rw [if_neg (by omega)]), rfl, rfl⟩

set_option maxRecDepth 100000 in
set_option maxHeartbeats 4000000 in
theorem c_X12_goesOn3 {G : pv_G} {d : Nat}  {t : pv_T} {I : pv_I} {L : pv_L} {Rf : pv_R} (hT : sh_ok t) (hR : rf_ok Rf) : pv_Mt G mX12_goesOn d 0 0 [.ref 61, .int 3] t I L Rf (pv_is none t (m_at I (h_on 3 (I 73))) (L) Rf) := by
  refine pv_mt mgX12_goesOn.2.2.2.2.2 [.ref 61, .int 3, .retAddr 0, .retAddr 0, .retAddr 0, .retAddr 0] rfl (Nat.le_of_ble_eq_true rfl) ?_
  refine pv_aload_0 (pc := 0) dX12_goesOn_0 ?_
  refine pv_getR (pc := 1) dX12_goesOn_1 fg_X12_55_12 rfl (by decide) (sx_61 hT) (rx_61_20 hR) ?_
  refine pv_iconst (pc := 4) (v := 0) dX12_goesOn_4 (by decide) ?_
  refine pv_ialoadj (pc := 5) dX12_goesOn_5 (sx_73 hT) (j := 0) (by decide) (by unfold vp_in; decide) ?_
  refine pv_istore_2 (pc := 6) dX12_goesOn_6 (by decide) rfl ?_
  refine pv_aload_0 (pc := 7) dX12_goesOn_7 ?_
  refine pv_getR (pc := 8) dX12_goesOn_8 fg_X12_55_12 rfl (by decide) (sx_61 hT) (rx_61_20 hR) ?_
  refine pv_iconst (pc := 11) (v := 1) dX12_goesOn_11 (by decide) ?_
  refine pv_ialoadj (pc := 12) dX12_goesOn_12 (sx_73 hT) (j := 1) (by decide) (by unfold vp_in; decide) ?_
  refine pv_istore_3 (pc := 13) dX12_goesOn_13 (by decide) rfl ?_
  refine pv_aload_0 (pc := 14) dX12_goesOn_14 ?_
  refine pv_getR (pc := 15) dX12_goesOn_15 fg_X12_55_12 rfl (by decide) (sx_61 hT) (rx_61_20 hR) ?_
  refine pv_iconst (pc := 18) (v := 2) dX12_goesOn_18 (by decide) ?_
  refine pv_ialoadj (pc := 19) dX12_goesOn_19 (sx_73 hT) (j := 2) (by decide) (by unfold vp_in; decide) ?_
  refine pv_istore_4 (pc := 20) dX12_goesOn_20 (by decide) rfl ?_
  refine pv_aload_0 (pc := 22) dX12_goesOn_22 ?_
  refine pv_getR (pc := 23) dX12_goesOn_23 fg_X12_55_12 rfl (by decide) (sx_61 hT) (rx_61_20 hR) ?_
  refine pv_iconst (pc := 26) (v := 3) dX12_goesOn_26 (by decide) ?_
  refine pv_ialoadj (pc := 27) dX12_goesOn_27 (sx_73 hT) (j := 3) (by decide) (by unfold vp_in; decide) ?_
  refine pv_istore_5 (pc := 28) dX12_goesOn_28 (by decide) rfl ?_
  refine pv_aload_0 (pc := 30) dX12_goesOn_30 ?_
  refine pv_getR (pc := 31) dX12_goesOn_31 fg_X12_55_12 rfl (by decide) (sx_61 hT) (rx_61_20 hR) ?_
  refine pv_iload_1 (pc := 34) dX12_goesOn_34 ?_
  refine pv_iconst (pc := 35) (v := 4) dX12_goesOn_35 (by decide) ?_
  refine pv_irem (pc := 36) dX12_goesOn_36 (by decide) ?_
  refine pv_topv (y := 3) (by decide) ?_
  refine pv_iload_2 (pc := 37) dX12_goesOn_37 ?_
  refine pv_iastorej (pc := 38) dX12_goesOn_38 (by decide) (sx_73 hT) (j := 3) (by decide) (by unfold vp_in; decide) ?_
  refine pv_aload_0 (pc := 39) dX12_goesOn_39 ?_
  refine pv_getR (pc := 40) dX12_goesOn_40 fg_X12_55_12 rfl (by decide) (sx_61 hT) (rx_61_20 hR) ?_
  refine pv_iconst (pc := 43) (v := 1) dX12_goesOn_43 (by decide) ?_
  refine pv_iload_1 (pc := 44) dX12_goesOn_44 ?_
  refine pv_iadd (pc := 45) dX12_goesOn_45 ?_
  refine pv_topv (y := 4) (by decide) ?_
  refine pv_iconst (pc := 46) (v := 4) dX12_goesOn_46 (by decide) ?_
  refine pv_irem (pc := 47) dX12_goesOn_47 (by decide) ?_
  refine pv_topv (y := 0) (by decide) ?_
  refine pv_iload_3 (pc := 48) dX12_goesOn_48 ?_
  refine pv_iastorej (pc := 49) dX12_goesOn_49 (by decide) (sx_73 hT) (j := 0) (by decide) (by unfold vp_in; decide) ?_
  refine pv_aload_0 (pc := 50) dX12_goesOn_50 ?_
  refine pv_getR (pc := 51) dX12_goesOn_51 fg_X12_55_12 rfl (by decide) (sx_61 hT) (rx_61_20 hR) ?_
  refine pv_iconst (pc := 54) (v := 2) dX12_goesOn_54 (by decide) ?_
  refine pv_iload_1 (pc := 55) dX12_goesOn_55 ?_
  refine pv_iadd (pc := 56) dX12_goesOn_56 ?_
  refine pv_topv (y := 5) (by decide) ?_
  refine pv_iconst (pc := 57) (v := 4) dX12_goesOn_57 (by decide) ?_
  refine pv_irem (pc := 58) dX12_goesOn_58 (by decide) ?_
  refine pv_topv (y := 1) (by decide) ?_
  refine pv_iload_4 (pc := 59) dX12_goesOn_59 ?_
  refine pv_iastorej (pc := 61) dX12_goesOn_61 (by decide) (sx_73 hT) (j := 1) (by decide) (by unfold vp_in; decide) ?_
  refine pv_aload_0 (pc := 62) dX12_goesOn_62 ?_
  refine pv_getR (pc := 63) dX12_goesOn_63 fg_X12_55_12 rfl (by decide) (sx_61 hT) (rx_61_20 hR) ?_
  refine pv_iconst (pc := 66) (v := 3) dX12_goesOn_66 (by decide) ?_
  refine pv_iload_1 (pc := 67) dX12_goesOn_67 ?_
  refine pv_iadd (pc := 68) dX12_goesOn_68 ?_
  refine pv_topv (y := 6) (by decide) ?_
  refine pv_iconst (pc := 69) (v := 4) dX12_goesOn_69 (by decide) ?_
  refine pv_irem (pc := 70) dX12_goesOn_70 (by decide) ?_
  refine pv_topv (y := 2) (by decide) ?_
  refine pv_iload_5 (pc := 71) dX12_goesOn_71 ?_
  refine pv_iastorej (pc := 73) dX12_goesOn_73 (by decide) (sx_73 hT) (j := 2) (by decide) (by unfold vp_in; decide) ?_
  refine pv_vret (pc := 74) dX12_goesOn_74 rfl ?_
  refine ⟨rfl, rfl, m_at_eq (fun a ha => by simp only [pv_u_ne _ _ ha]) (fun j hj => by match j, hj with | 0, _ => rfl | 1, _ => rfl | 2, _ => rfl | 3, _ => rfl) (fun j hj => by simp only [pv_u_app]; repeat rw [if_neg (by omega)]), rfl, rfl⟩

set_option maxRecDepth 100000 in
set_option maxHeartbeats 4000000 in
theorem c_X12_goesOn {G : pv_G} {d : Nat} {k : Int32} {j : Nat} {t : pv_T} {I : pv_I} {L : pv_L} {Rf : pv_R} (hT : sh_ok t) (hR : rf_ok Rf) (hj : j < 4) (hk : k = Int32.ofNat j) : pv_Mt G mX12_goesOn d 0 0 [.ref 61, .int k] t I L Rf (pv_is none t (m_at I (h_on j (I 73))) L Rf) := by
  match j, hj with
  | 0, _ => exact hk ▸ c_X12_goesOn0 hT hR
  | 1, _ => exact hk ▸ c_X12_goesOn1 hT hR
  | 2, _ => exact hk ▸ c_X12_goesOn2 hT hR
  | 3, _ => exact hk ▸ c_X12_goesOn3 hT hR
/-- who is where behind one of the three steps -/
def h_stc (s : Int32) (c : Nat → Int32) : Nat → Int32 := if s = 2 then h_on 1 c else h_sw 1 c
theorem st_over (p q : Int64) : p + (1 : Int32).toInt64 * q = s_stepP 0 p q := by
  unfold s_stepP
  rw [if_pos rfl, show (1 : Int32).toInt64 = 1 by decide, Int64.one_mul]
theorem st_under (p q : Int64) : p + (-1 : Int32).toInt64 * q = s_stepP 1 p q := by
  unfold s_stepP
  rw [if_neg (show ¬ (1 : Int32) = 0 by decide), if_pos rfl, show (-1 : Int32).toInt64 = -1 by decide, Int64.neg_mul, Int64.one_mul, Int64.sub_eq_add_neg]

set_option maxRecDepth 100000 in
set_option maxHeartbeats 4000000 in
theorem c_X12_step {G : pv_G} {d : Nat} {s : Int32} {t : pv_T} {I : pv_I} {L : pv_L} {Rf : pv_R} (hT : sh_ok t) (hR : rf_ok Rf) (hs : s = 0 ∨ s = 1 ∨ s = 2) (hd : 1 ≤ d) : pv_Mt G mX12_step d 0 0 [.ref 61, .int s] t I L Rf (pv_is none t (m_at I (h_stc s (I 73))) (m_pq L (s_stepP s (L 61 18) (L 61 19)) (s_stepQ s (L 61 18) (L 61 19))) Rf) := by
  refine pv_mt mgX12_step.2.2.2.2.2 [.ref 61, .int s] rfl (Nat.le_of_ble_eq_true rfl) ?_
  refine pv_iload_1 (pc := 0) dX12_step_0 ?_
  refine pv_iconst (pc := 1) (v := 2) dX12_step_1 (by decide) ?_
  refine pv_icmp_ne (pc := 2) (tgt := 17) dX12_step_2 (by decide) (fun h2 => ?_) (fun h2 => ?_)
  · refine pv_aload_0 (pc := 17) dX12_step_17 ?_
    refine pv_iload_1 (pc := 18) dX12_step_18 ?_
    refine pv_if_ne (pc := 19) (tgt := 26) dX12_step_19 (by decide) (fun h19 => ?_) (fun h19 => ?_)
    · refine pv_iconst (pc := 26) (v := (-1)) dX12_step_26 (by decide) ?_
      refine pv_callV0 (pc := 27) dX12_step_27 mgX12_more lv_X12_163_12 (by decide) (sx_61 hT) (by omega) (c_X12_more hT hR) rfl rfl (by decide) ?_
      refine pv_vret (pc := 30) dX12_step_30 rfl ?_
      first
        | (have e := h2; subst e; refine ⟨rfl, rfl, ?_, ?_, rfl⟩ <;> rfl)
        | (have e : s = 0 := by assumption
           subst e; rw [st_over]; exact ⟨rfl, rfl, rfl, rfl, rfl⟩)
        | (have e : s = 1 := by simp_all
           subst e; rw [st_under]; exact ⟨rfl, rfl, rfl, rfl, rfl⟩)
    · refine pv_iconst (pc := 22) (v := 1) dX12_step_22 (by decide) ?_
      refine pv_goto (pc := 23) (tgt := 27) dX12_step_23 (by decide) ?_
      refine pv_callV0 (pc := 27) dX12_step_27 mgX12_more lv_X12_163_12 (by decide) (sx_61 hT) (by omega) (c_X12_more hT hR) rfl rfl (by decide) ?_
      refine pv_vret (pc := 30) dX12_step_30 rfl ?_
      first
        | (have e := h2; subst e; refine ⟨rfl, rfl, ?_, ?_, rfl⟩ <;> rfl)
        | (have e : s = 0 := by assumption
           subst e; rw [st_over]; exact ⟨rfl, rfl, rfl, rfl, rfl⟩)
        | (have e : s = 1 := by simp_all
           subst e; rw [st_under]; exact ⟨rfl, rfl, rfl, rfl, rfl⟩)
  · refine pv_aload_0 (pc := 5) dX12_step_5 ?_
    refine pv_callV0 (pc := 6) dX12_step_6 mgX12_turns lv_X12_156_12 (by decide) (sx_61 hT) (by omega) (c_X12_turns hT) rfl rfl (by decide) ?_
    refine pv_aload_0 (pc := 9) dX12_step_9 ?_
    refine pv_iconst (pc := 10) (v := 1) dX12_step_10 (by decide) ?_
    refine pv_callV0 (pc := 11) dX12_step_11 mgX12_goesOn lv_X12_159_12 (by decide) (sx_61 hT) (by omega) (c_X12_goesOn (j := 1) hT hR (by decide) (by decide)) rfl rfl (by decide) ?_
    refine pv_goto (pc := 14) (tgt := 30) dX12_step_14 (by decide) ?_
    refine pv_vret (pc := 30) dX12_step_30 rfl ?_
    first
      | (have e := h2; subst e; refine ⟨rfl, rfl, ?_, ?_, rfl⟩ <;> rfl)
      | (have e : s = 0 := by assumption
         subst e; rw [st_over]; exact ⟨rfl, rfl, rfl, rfl, rfl⟩)
      | (have e : s = 1 := by simp_all
         subst e; rw [st_under]; exact ⟨rfl, rfl, rfl, rfl, rfl⟩)

