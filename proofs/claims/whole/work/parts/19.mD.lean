/-! a figure of kind k with a, danced -/
def f_m (k a : Int32) : Int32 := if k = 1 then 1 else if k = 2 then -1 else a
def f_n (k a : Int32) : Int32 := if k = 6 then a else 1
def f_r (k a : Int32) : Nat := if k = 5 then 3 else (f_n k a % 4).toNatClampNeg
def f_P (k a : Int32) (p q : Int64) : Int64 := if s_isC k = true then p + (f_m k a).toInt64 * q else if s_isT k = true ∧ f_n k a % 2 = 1 then s_stepP 2 p q else p
def f_Q (k a : Int32) (p q : Int64) : Int64 := if s_isC k = true then q else if s_isT k = true ∧ f_n k a % 2 = 1 then s_stepQ 2 p q else q
def f_C (k a : Int32) (c : Nat → Int32) : Nat → Int32 := if s_isC k = true then h_sw (f_m k a) c else if s_isT k = true then h_on (f_r k a) c else c
theorem s_C1 : s_isC 1 = true := by decide
theorem s_C2 : s_isC 2 = true := by decide
theorem s_C3 : s_isC 3 = true := by decide
theorem s_C5 : s_isC 5 = false := by decide
theorem s_C6 : s_isC 6 = false := by decide
theorem s_T5 : s_isT 5 = true := by decide
theorem s_T6 : s_isT 6 = true := by decide
theorem s_CT {k : Int32} (h : s_isC k = true) : s_isT k = false := by
  simp only [s_isC, Bool.or_eq_true, decide_eq_true_eq] at h
  rcases h with (rfl | rfl) | rfl <;> decide
theorem f_r4 {a : Int32} (h : 0 ≤ a.toInt ∧ a.toInt ≤ 9) : (a % 4).toNatClampNeg < 4 ∧ a % 4 = Int32.ofNat (a % 4).toNatClampNeg := by
  have e : (a % 4).toInt = a.toInt % 4 := by
    rw [Int32.toInt_mod, show (4 : Int32).toInt = 4 by decide, Int.tmod_eq_emod_of_nonneg h.1]
  have e2 : (a % 4).toNatClampNeg = (a % 4).toInt.toNat := rfl
  refine ⟨by omega, ?_⟩
  rw [← Int32.toInt_inj, Int32.toInt_ofNat_of_lt (by omega)]
  omega

set_option maxRecDepth 100000 in
set_option maxHeartbeats 4000000 in
theorem c_X12_figured {G : pv_G} {d : Nat} {f : Int32} {t : pv_T} {I : pv_I} {L : pv_L} {Rf : pv_R} (hT : sh_ok t) (hR : rf_ok Rf) (hf : vp_in f 8) (ha : I 63 f.toNatClampNeg = 6 → 0 ≤ (I 64 f.toNatClampNeg).toInt ∧ (I 64 f.toNatClampNeg).toInt ≤ 9) (hd : 2 ≤ d) : pv_Mt G mX12_figured d 0 0 [.ref 61, .int f] t I L Rf (pv_is none t (m_at I (f_C (I 63 f.toNatClampNeg) (I 64 f.toNatClampNeg) (I 73))) (m_pq L (f_P (I 63 f.toNatClampNeg) (I 64 f.toNatClampNeg) (L 61 18) (L 61 19)) (f_Q (I 63 f.toNatClampNeg) (I 64 f.toNatClampNeg) (L 61 18) (L 61 19))) Rf) := by
  refine pv_mt mgX12_figured.2.2.2.2.2 [.ref 61, .int f, .retAddr 0, .retAddr 0] rfl (Nat.le_of_ble_eq_true rfl) ?_
  by_cases hc : s_isC (I 63 f.toNatClampNeg) = true
  · refine pv_aload_0 (pc := 0) dX12_figured_0 ?_
    refine pv_getR (pc := 1) dX12_figured_1 fg_X12_24_12 rfl (by decide) (sx_61 hT) (rx_61_8 hR) ?_
    refine pv_iload_1 (pc := 4) dX12_figured_4 ?_
    refine pv_ialoadj (pc := 5) dX12_figured_5 (sx_63 hT) rfl hf ?_
    refine pv_istore_2 (pc := 6) dX12_figured_6 (by decide) rfl ?_
    refine pv_aload_0 (pc := 7) dX12_figured_7 ?_
    refine pv_iload_2 (pc := 8) dX12_figured_8 ?_
    refine pv_callV1 (pc := 9) dX12_figured_9 mgX12_isChange lv_X12_122_12 (by decide) (sx_61 hT) (by omega) (c_X12_isChange ) rfl rfl (by decide) ?_
    refine pv_if_eq (pc := 12) (tgt := 43) dX12_figured_12 (by decide) (fun h12 => absurd h12 (by rw [hc]; decide)) (fun h12 => ?_)
    refine pv_aload_0 (pc := 15) dX12_figured_15 ?_
    refine pv_iload_2 (pc := 16) dX12_figured_16 ?_
    refine pv_iconst (pc := 17) (v := 1) dX12_figured_17 (by decide) ?_
    refine pv_icmp_ne (pc := 18) (tgt := 25) dX12_figured_18 (by decide) (fun h18 => ?_) (fun h18 => ?_)
    · refine pv_iload_2 (pc := 25) dX12_figured_25 ?_
      refine pv_iconst (pc := 26) (v := 2) dX12_figured_26 (by decide) ?_
      refine pv_icmp_ne (pc := 27) (tgt := 34) dX12_figured_27 (by decide) (fun h27 => ?_) (fun h27 => ?_)
      · refine pv_aload_0 (pc := 34) dX12_figured_34 ?_
        refine pv_getR (pc := 35) dX12_figured_35 fg_X12_27_12 rfl (by decide) (sx_61 hT) (rx_61_9 hR) ?_
        refine pv_iload_1 (pc := 38) dX12_figured_38 ?_
        refine pv_ialoadj (pc := 39) dX12_figured_39 (sx_64 hT) rfl hf ?_
        refine pv_callV0 (pc := 40) dX12_figured_40 mgX12_more lv_X12_163_12 (by decide) (sx_61 hT) (by omega) (c_X12_more hT hR) rfl rfl (by decide) ?_
        refine pv_aload_0 (pc := 43) dX12_figured_43 ?_
        refine pv_iload_2 (pc := 44) dX12_figured_44 ?_
        refine pv_callV1 (pc := 45) dX12_figured_45 mgX12_isTurn lv_X12_125_12 (by decide) (sx_61 hT) (by omega) (c_X12_isTurn ) rfl rfl (by decide) ?_
        refine pv_if_ne (pc := 48) (tgt := 52) dX12_figured_48 (by decide) (fun h48 => absurd h48 (by rw [s_CT hc]; decide)) (fun h48 => ?_)
        refine pv_vret (pc := 51) dX12_figured_51 rfl ?_
        first | (exfalso; revert h83; rw [h55]; decide) | (refine ⟨rfl, rfl, ?_, ?_, rfl⟩ <;> simp [f_C, f_P, f_Q, f_m, f_n, f_r, m_at_self, m_pq_self, s_C1, s_C2, s_C5, s_C6, s_T5, s_T6, *])
      · refine pv_iconst (pc := 30) (v := (-1)) dX12_figured_30 (by decide) ?_
        refine pv_goto (pc := 31) (tgt := 40) dX12_figured_31 (by decide) ?_
        refine pv_callV0 (pc := 40) dX12_figured_40 mgX12_more lv_X12_163_12 (by decide) (sx_61 hT) (by omega) (c_X12_more hT hR) rfl rfl (by decide) ?_
        refine pv_aload_0 (pc := 43) dX12_figured_43 ?_
        refine pv_iload_2 (pc := 44) dX12_figured_44 ?_
        refine pv_callV1 (pc := 45) dX12_figured_45 mgX12_isTurn lv_X12_125_12 (by decide) (sx_61 hT) (by omega) (c_X12_isTurn ) rfl rfl (by decide) ?_
        refine pv_if_ne (pc := 48) (tgt := 52) dX12_figured_48 (by decide) (fun h48 => absurd h48 (by rw [s_CT hc]; decide)) (fun h48 => ?_)
        refine pv_vret (pc := 51) dX12_figured_51 rfl ?_
        first | (exfalso; revert h83; rw [h55]; decide) | (refine ⟨rfl, rfl, ?_, ?_, rfl⟩ <;> simp [f_C, f_P, f_Q, f_m, f_n, f_r, m_at_self, m_pq_self, s_C1, s_C2, s_C5, s_C6, s_T5, s_T6, *])
    · refine pv_iconst (pc := 21) (v := 1) dX12_figured_21 (by decide) ?_
      refine pv_goto (pc := 22) (tgt := 40) dX12_figured_22 (by decide) ?_
      refine pv_callV0 (pc := 40) dX12_figured_40 mgX12_more lv_X12_163_12 (by decide) (sx_61 hT) (by omega) (c_X12_more hT hR) rfl rfl (by decide) ?_
      refine pv_aload_0 (pc := 43) dX12_figured_43 ?_
      refine pv_iload_2 (pc := 44) dX12_figured_44 ?_
      refine pv_callV1 (pc := 45) dX12_figured_45 mgX12_isTurn lv_X12_125_12 (by decide) (sx_61 hT) (by omega) (c_X12_isTurn ) rfl rfl (by decide) ?_
      refine pv_if_ne (pc := 48) (tgt := 52) dX12_figured_48 (by decide) (fun h48 => absurd h48 (by rw [s_CT hc]; decide)) (fun h48 => ?_)
      refine pv_vret (pc := 51) dX12_figured_51 rfl ?_
      first | (exfalso; revert h83; rw [h55]; decide) | (refine ⟨rfl, rfl, ?_, ?_, rfl⟩ <;> simp [f_C, f_P, f_Q, f_m, f_n, f_r, m_at_self, m_pq_self, s_C1, s_C2, s_C5, s_C6, s_T5, s_T6, *])
  · have hc : s_isC (I 63 f.toNatClampNeg) = false := by simpa using hc
    by_cases ht : s_isT (I 63 f.toNatClampNeg) = true
    · refine pv_aload_0 (pc := 0) dX12_figured_0 ?_
      refine pv_getR (pc := 1) dX12_figured_1 fg_X12_24_12 rfl (by decide) (sx_61 hT) (rx_61_8 hR) ?_
      refine pv_iload_1 (pc := 4) dX12_figured_4 ?_
      refine pv_ialoadj (pc := 5) dX12_figured_5 (sx_63 hT) rfl hf ?_
      refine pv_istore_2 (pc := 6) dX12_figured_6 (by decide) rfl ?_
      refine pv_aload_0 (pc := 7) dX12_figured_7 ?_
      refine pv_iload_2 (pc := 8) dX12_figured_8 ?_
      refine pv_callV1 (pc := 9) dX12_figured_9 mgX12_isChange lv_X12_122_12 (by decide) (sx_61 hT) (by omega) (c_X12_isChange ) rfl rfl (by decide) ?_
      refine pv_if_eq (pc := 12) (tgt := 43) dX12_figured_12 (by decide) (fun h12 => ?_) (fun h12 => absurd h12 (by rw [hc]; decide))
      refine pv_aload_0 (pc := 43) dX12_figured_43 ?_
      refine pv_iload_2 (pc := 44) dX12_figured_44 ?_
      refine pv_callV1 (pc := 45) dX12_figured_45 mgX12_isTurn lv_X12_125_12 (by decide) (sx_61 hT) (by omega) (c_X12_isTurn ) rfl rfl (by decide) ?_
      refine pv_if_ne (pc := 48) (tgt := 52) dX12_figured_48 (by decide) (fun h48 => ?_) (fun h48 => absurd h48 (by rw [ht]; decide))
      refine pv_iload_2 (pc := 52) dX12_figured_52 ?_
      refine pv_bipush (pc := 53) (v := 6) dX12_figured_53 (by decide) ?_
      refine pv_icmp_ne (pc := 55) (tgt := 67) dX12_figured_55 (by decide) (fun h55 => ?_) (fun h55 => ?_)
      · refine pv_iconst (pc := 67) (v := 1) dX12_figured_67 (by decide) ?_
        refine pv_istore_3 (pc := 68) dX12_figured_68 (by decide) rfl ?_
        refine pv_iload_3 (pc := 69) dX12_figured_69 ?_
        refine pv_iconst (pc := 70) (v := 2) dX12_figured_70 (by decide) ?_
        refine pv_irem (pc := 71) dX12_figured_71 (by decide) ?_
        refine pv_topv (y := 1) (by decide) ?_
        refine pv_iconst (pc := 72) (v := 1) dX12_figured_72 (by decide) ?_
        refine pv_icmp_ne (pc := 73) (tgt := 80) dX12_figured_73 (by decide) (fun q => absurd q (by decide)) (fun _ => ?_)
        refine pv_aload_0 (pc := 76) dX12_figured_76 ?_
        refine pv_callV0 (pc := 77) dX12_figured_77 mgX12_turns lv_X12_156_12 (by decide) (sx_61 hT) (by omega) (c_X12_turns hT) rfl rfl (by decide) ?_
        refine pv_aload_0 (pc := 80) dX12_figured_80 ?_
        refine pv_iload_2 (pc := 81) dX12_figured_81 ?_
        refine pv_iconst (pc := 82) (v := 5) dX12_figured_82 (by decide) ?_
        refine pv_icmp_ne (pc := 83) (tgt := 90) dX12_figured_83 (by decide) (fun h83 => ?_) (fun h83 => ?_)
        · refine pv_iload_3 (pc := 90) dX12_figured_90 ?_
          refine pv_iconst (pc := 91) (v := 4) dX12_figured_91 (by decide) ?_
          refine pv_irem (pc := 92) dX12_figured_92 (by decide) ?_
          refine pv_topv (y := 1) (by decide) ?_
          refine pv_callV0 (pc := 93) dX12_figured_93 mgX12_goesOn lv_X12_159_12 (by decide) (sx_61 hT) (by omega) (c_X12_goesOn (j := 1) hT hR (by decide) (by decide)) rfl rfl (by decide) ?_
          refine pv_vret (pc := 96) dX12_figured_96 rfl ?_
          first | (exfalso; revert h83; rw [h55]; decide) | (refine ⟨rfl, rfl, ?_, ?_, rfl⟩ <;> simp [f_C, f_P, f_Q, f_m, f_n, f_r, m_at_self, m_pq_self, s_C1, s_C2, s_C5, s_C6, s_T5, s_T6, *])
        · refine pv_iconst (pc := 86) (v := 3) dX12_figured_86 (by decide) ?_
          refine pv_goto (pc := 87) (tgt := 93) dX12_figured_87 (by decide) ?_
          refine pv_callV0 (pc := 93) dX12_figured_93 mgX12_goesOn lv_X12_159_12 (by decide) (sx_61 hT) (by omega) (c_X12_goesOn (j := 3) hT hR (by decide) (by decide)) rfl rfl (by decide) ?_
          refine pv_vret (pc := 96) dX12_figured_96 rfl ?_
          first | (exfalso; revert h83; rw [h55]; decide) | (refine ⟨rfl, rfl, ?_, ?_, rfl⟩ <;> simp [f_C, f_P, f_Q, f_m, f_n, f_r, m_at_self, m_pq_self, s_C1, s_C2, s_C5, s_C6, s_T5, s_T6, *])
      · refine pv_aload_0 (pc := 58) dX12_figured_58 ?_
        refine pv_getR (pc := 59) dX12_figured_59 fg_X12_27_12 rfl (by decide) (sx_61 hT) (rx_61_9 hR) ?_
        refine pv_iload_1 (pc := 62) dX12_figured_62 ?_
        refine pv_ialoadj (pc := 63) dX12_figured_63 (sx_64 hT) rfl hf ?_
        refine pv_goto (pc := 64) (tgt := 68) dX12_figured_64 (by decide) ?_
        refine pv_istore_3 (pc := 68) dX12_figured_68 (by decide) rfl ?_
        refine pv_iload_3 (pc := 69) dX12_figured_69 ?_
        refine pv_iconst (pc := 70) (v := 2) dX12_figured_70 (by decide) ?_
        refine pv_irem (pc := 71) dX12_figured_71 (by decide) ?_
        refine pv_iconst (pc := 72) (v := 1) dX12_figured_72 (by decide) ?_
        refine pv_icmp_ne (pc := 73) (tgt := 80) dX12_figured_73 (by decide) (fun h73 => ?_) (fun h73 => ?_)
        · refine pv_aload_0 (pc := 80) dX12_figured_80 ?_
          refine pv_iload_2 (pc := 81) dX12_figured_81 ?_
          refine pv_iconst (pc := 82) (v := 5) dX12_figured_82 (by decide) ?_
          refine pv_icmp_ne (pc := 83) (tgt := 90) dX12_figured_83 (by decide) (fun h83 => ?_) (fun h83 => ?_)
          · refine pv_iload_3 (pc := 90) dX12_figured_90 ?_
            refine pv_iconst (pc := 91) (v := 4) dX12_figured_91 (by decide) ?_
            refine pv_irem (pc := 92) dX12_figured_92 (by decide) ?_
            refine pv_callV0 (pc := 93) dX12_figured_93 mgX12_goesOn lv_X12_159_12 (by decide) (sx_61 hT) (by omega) (c_X12_goesOn hT hR (f_r4 (ha (by assumption))).1 (f_r4 (ha (by assumption))).2) rfl rfl (by decide) ?_
            refine pv_vret (pc := 96) dX12_figured_96 rfl ?_
            first | (exfalso; revert h83; rw [h55]; decide) | (refine ⟨rfl, rfl, ?_, ?_, rfl⟩ <;> simp [f_C, f_P, f_Q, f_m, f_n, f_r, m_at_self, m_pq_self, s_C1, s_C2, s_C5, s_C6, s_T5, s_T6, *])
          · refine pv_iconst (pc := 86) (v := 3) dX12_figured_86 (by decide) ?_
            refine pv_goto (pc := 87) (tgt := 93) dX12_figured_87 (by decide) ?_
            refine pv_callV0 (pc := 93) dX12_figured_93 mgX12_goesOn lv_X12_159_12 (by decide) (sx_61 hT) (by omega) (c_X12_goesOn (j := 3) hT hR (by decide) (by decide)) rfl rfl (by decide) ?_
            refine pv_vret (pc := 96) dX12_figured_96 rfl ?_
            first | (exfalso; revert h83; rw [h55]; decide) | (refine ⟨rfl, rfl, ?_, ?_, rfl⟩ <;> simp [f_C, f_P, f_Q, f_m, f_n, f_r, m_at_self, m_pq_self, s_C1, s_C2, s_C5, s_C6, s_T5, s_T6, *])
        · refine pv_aload_0 (pc := 76) dX12_figured_76 ?_
          refine pv_callV0 (pc := 77) dX12_figured_77 mgX12_turns lv_X12_156_12 (by decide) (sx_61 hT) (by omega) (c_X12_turns hT) rfl rfl (by decide) ?_
          refine pv_aload_0 (pc := 80) dX12_figured_80 ?_
          refine pv_iload_2 (pc := 81) dX12_figured_81 ?_
          refine pv_iconst (pc := 82) (v := 5) dX12_figured_82 (by decide) ?_
          refine pv_icmp_ne (pc := 83) (tgt := 90) dX12_figured_83 (by decide) (fun h83 => ?_) (fun h83 => ?_)
          · refine pv_iload_3 (pc := 90) dX12_figured_90 ?_
            refine pv_iconst (pc := 91) (v := 4) dX12_figured_91 (by decide) ?_
            refine pv_irem (pc := 92) dX12_figured_92 (by decide) ?_
            refine pv_callV0 (pc := 93) dX12_figured_93 mgX12_goesOn lv_X12_159_12 (by decide) (sx_61 hT) (by omega) (c_X12_goesOn hT hR (f_r4 (ha (by assumption))).1 (f_r4 (ha (by assumption))).2) rfl rfl (by decide) ?_
            refine pv_vret (pc := 96) dX12_figured_96 rfl ?_
            first | (exfalso; revert h83; rw [h55]; decide) | (refine ⟨rfl, rfl, ?_, ?_, rfl⟩ <;> simp [f_C, f_P, f_Q, f_m, f_n, f_r, m_at_self, m_pq_self, s_C1, s_C2, s_C5, s_C6, s_T5, s_T6, *])
          · refine pv_iconst (pc := 86) (v := 3) dX12_figured_86 (by decide) ?_
            refine pv_goto (pc := 87) (tgt := 93) dX12_figured_87 (by decide) ?_
            refine pv_callV0 (pc := 93) dX12_figured_93 mgX12_goesOn lv_X12_159_12 (by decide) (sx_61 hT) (by omega) (c_X12_goesOn (j := 3) hT hR (by decide) (by decide)) rfl rfl (by decide) ?_
            refine pv_vret (pc := 96) dX12_figured_96 rfl ?_
            first | (exfalso; revert h83; rw [h55]; decide) | (refine ⟨rfl, rfl, ?_, ?_, rfl⟩ <;> simp [f_C, f_P, f_Q, f_m, f_n, f_r, m_at_self, m_pq_self, s_C1, s_C2, s_C5, s_C6, s_T5, s_T6, *])
    · have ht : s_isT (I 63 f.toNatClampNeg) = false := by simpa using ht
      refine pv_aload_0 (pc := 0) dX12_figured_0 ?_
      refine pv_getR (pc := 1) dX12_figured_1 fg_X12_24_12 rfl (by decide) (sx_61 hT) (rx_61_8 hR) ?_
      refine pv_iload_1 (pc := 4) dX12_figured_4 ?_
      refine pv_ialoadj (pc := 5) dX12_figured_5 (sx_63 hT) rfl hf ?_
      refine pv_istore_2 (pc := 6) dX12_figured_6 (by decide) rfl ?_
      refine pv_aload_0 (pc := 7) dX12_figured_7 ?_
      refine pv_iload_2 (pc := 8) dX12_figured_8 ?_
      refine pv_callV1 (pc := 9) dX12_figured_9 mgX12_isChange lv_X12_122_12 (by decide) (sx_61 hT) (by omega) (c_X12_isChange ) rfl rfl (by decide) ?_
      refine pv_if_eq (pc := 12) (tgt := 43) dX12_figured_12 (by decide) (fun h12 => ?_) (fun h12 => absurd h12 (by rw [hc]; decide))
      refine pv_aload_0 (pc := 43) dX12_figured_43 ?_
      refine pv_iload_2 (pc := 44) dX12_figured_44 ?_
      refine pv_callV1 (pc := 45) dX12_figured_45 mgX12_isTurn lv_X12_125_12 (by decide) (sx_61 hT) (by omega) (c_X12_isTurn ) rfl rfl (by decide) ?_
      refine pv_if_ne (pc := 48) (tgt := 52) dX12_figured_48 (by decide) (fun h48 => absurd h48 (by rw [ht]; decide)) (fun h48 => ?_)
      refine pv_vret (pc := 51) dX12_figured_51 rfl ?_
      first | (exfalso; revert h83; rw [h55]; decide) | (refine ⟨rfl, rfl, ?_, ?_, rfl⟩ <;> simp [f_C, f_P, f_Q, f_m, f_n, f_r, m_at_self, m_pq_self, s_C1, s_C2, s_C5, s_C6, s_T5, s_T6, *])

