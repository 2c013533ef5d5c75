/-! the reference: refusals, shelves, kinds -/
def s_ref (I : pv_I) (k : Nat) : pv_I := pv_u I 62 k (I 62 k + 1)
def s_sh (s : Int32) : Bool := decide (0 ≤ s) && decide (s < 8)
theorem s_sh_in {s : Int32} (h : s_sh s = true) : vp_in s 8 := by
  simp only [s_sh, Bool.and_eq_true, decide_eq_true_eq, Int32.le_iff_toInt_le, Int32.lt_iff_toInt_lt] at h
  exact pv_in_of h.1 h.2
theorem s_sh_of {s : Int32} (h : vp_in s 8) : s_sh s = true := by
  have := pv_in_lt h
  simp only [s_sh, Bool.and_eq_true, decide_eq_true_eq, Int32.le_iff_toInt_le, Int32.lt_iff_toInt_lt]
  exact ⟨this.1, this.2.1⟩
def s_wants (I : pv_I) (s : Int32) : Int32 := if s_sh s = true then (if I 67 s.toNatClampNeg = 2 then -2 else if I 67 s.toNatClampNeg = 0 then -3 else 0) else -1
def s_bars (I : pv_I) (s n : Int32) : Int32 := if s_wants I s = 0 then (if n < 0 then -4 else if I 69 s.toNatClampNeg < n then -5 else 0) else s_wants I s
theorem s_wants_0 {I : pv_I} {s : Int32} (h : s_wants I s = 0) : vp_in s 8 := by
  unfold s_wants at h
  split at h
  · exact s_sh_in (by assumption)
  · exact absurd h (by decide)
def s_isC (k : Int32) : Bool := decide (k = 1) || decide (k = 2) || decide (k = 3)
def s_isT (k : Int32) : Bool := decide (k = 4) || decide (k = 5) || decide (k = 6)
theorem ix_cell {s i : Int32} (hs : vp_in s 8) (hi : vp_in i 160) : (160 * s + i).toNatClampNeg = 160 * s.toNatClampNeg + i.toNatClampNeg ∧ vp_in (160 * s + i) 1280 := by
  obtain ⟨a1, a2, a3, a4⟩ := pv_in_lt hs
  obtain ⟨b1, b2, b3, b4⟩ := pv_in_lt hi
  have e0 : (160 : Int32).toInt = 160 := by decide
  have e1 : (160 * s).toInt = 160 * s.toInt := by rw [Jvm.Kit.i32_mul (by rw [e0]; omega) (by rw [e0]; omega), e0]
  have e2 : (160 * s + i).toInt = 160 * s.toInt + i.toInt := by rw [Jvm.Kit.i32_add (by rw [e1]; omega) (by rw [e1]; omega), e1]
  have e3 : (160 * s + i).toNatClampNeg = (160 * s + i).toInt.toNat := rfl
  exact ⟨by omega, pv_in_of (by omega) (by omega)⟩

set_option maxRecDepth 100000 in
set_option maxHeartbeats 4000000 in
theorem c_X12_no {G : pv_G} {d : Nat} {b : Int32} {k : Nat} {t : pv_T} {I : pv_I} {L : pv_L} {Rf : pv_R} (hT : sh_ok t) (hR : rf_ok Rf) (hk : (-b).toNatClampNeg = k) (hb : vp_in (-b) 8) : pv_Mt G mX12_no d 0 0 [.ref 61, .int b] t I L Rf (pv_is (some (.int b)) t (s_ref I k) L Rf) := by
  refine pv_mt mgX12_no.2.2.2.2.2 [.ref 61, .int b] rfl (Nat.le_of_ble_eq_true rfl) ?_
  refine pv_aload_0 (pc := 0) dX12_no_0 ?_
  refine pv_getR (pc := 1) dX12_no_1 fg_X12_20_12 rfl (by decide) (sx_61 hT) (rx_61_7 hR) ?_
  refine pv_iload_1 (pc := 4) dX12_no_4 ?_
  refine pv_ineg (pc := 5) dX12_no_5 ?_
  refine pv_dup2 (pc := 6) dX12_no_6 rfl rfl ?_
  refine pv_ialoadj (pc := 7) dX12_no_7 (sx_62 hT) rfl hb ?_
  refine pv_iconst (pc := 8) (v := 1) dX12_no_8 (by decide) ?_
  refine pv_iadd (pc := 9) dX12_no_9 ?_
  refine pv_iastorej (pc := 10) dX12_no_10 (by decide) (sx_62 hT) rfl hb ?_
  refine pv_iload_1 (pc := 11) dX12_no_11 ?_
  refine pv_iret (pc := 12) dX12_no_12 rfl rfl ?_
  subst hk
  exact ⟨rfl, rfl, rfl, rfl, rfl⟩

set_option maxRecDepth 100000 in
set_option maxHeartbeats 4000000 in
theorem c_X12_noTen {G : pv_G} {d : Nat} {b : Int32} {k : Nat} {t : pv_T} {I : pv_I} {L : pv_L} {Rf : pv_R} (hT : sh_ok t) (hR : rf_ok Rf) (hk : (-b).toNatClampNeg = k) (hb : vp_in (-b) 8) : pv_Mt G mX12_noTen d 0 0 [.ref 61, .int b] t I L Rf (pv_is (some (.int (b - 10))) t (s_ref I k) L Rf) := by
  refine pv_mt mgX12_noTen.2.2.2.2.2 [.ref 61, .int b] rfl (Nat.le_of_ble_eq_true rfl) ?_
  refine pv_aload_0 (pc := 0) dX12_noTen_0 ?_
  refine pv_getR (pc := 1) dX12_noTen_1 fg_X12_20_12 rfl (by decide) (sx_61 hT) (rx_61_7 hR) ?_
  refine pv_iload_1 (pc := 4) dX12_noTen_4 ?_
  refine pv_ineg (pc := 5) dX12_noTen_5 ?_
  refine pv_dup2 (pc := 6) dX12_noTen_6 rfl rfl ?_
  refine pv_ialoadj (pc := 7) dX12_noTen_7 (sx_62 hT) rfl hb ?_
  refine pv_iconst (pc := 8) (v := 1) dX12_noTen_8 (by decide) ?_
  refine pv_iadd (pc := 9) dX12_noTen_9 ?_
  refine pv_iastorej (pc := 10) dX12_noTen_10 (by decide) (sx_62 hT) rfl hb ?_
  refine pv_iload_1 (pc := 11) dX12_noTen_11 ?_
  refine pv_bipush (pc := 12) (v := 10) dX12_noTen_12 (by decide) ?_
  refine pv_isub (pc := 14) dX12_noTen_14 ?_
  refine pv_iret (pc := 15) dX12_noTen_15 rfl rfl ?_
  subst hk
  exact ⟨rfl, rfl, rfl, rfl, rfl⟩

set_option maxRecDepth 100000 in
set_option maxHeartbeats 4000000 in
theorem c_X12_noLow {G : pv_G} {d : Nat} {b : Int32} {k : Nat} {t : pv_T} {I : pv_I} {L : pv_L} {Rf : pv_R} (hT : sh_ok t) (hR : rf_ok Rf) (hk : (-b).toNatClampNeg = k) (hb : vp_in (-b) 8) : pv_Mt G mX12_noLow d 0 0 [.ref 61, .int b] t I L Rf (pv_is (some (.long (-2000000000000 + b.toInt64))) t (s_ref I k) L Rf) := by
  refine pv_mt mgX12_noLow.2.2.2.2.2 [.ref 61, .int b] rfl (Nat.le_of_ble_eq_true rfl) ?_
  refine pv_aload_0 (pc := 0) dX12_noLow_0 ?_
  refine pv_getR (pc := 1) dX12_noLow_1 fg_X12_20_12 rfl (by decide) (sx_61 hT) (rx_61_7 hR) ?_
  refine pv_iload_1 (pc := 4) dX12_noLow_4 ?_
  refine pv_ineg (pc := 5) dX12_noLow_5 ?_
  refine pv_dup2 (pc := 6) dX12_noLow_6 rfl rfl ?_
  refine pv_ialoadj (pc := 7) dX12_noLow_7 (sx_62 hT) rfl hb ?_
  refine pv_iconst (pc := 8) (v := 1) dX12_noLow_8 (by decide) ?_
  refine pv_iadd (pc := 9) dX12_noLow_9 ?_
  refine pv_iastorej (pc := 10) dX12_noLow_10 (by decide) (sx_62 hT) rfl hb ?_
  refine pv_ldc2 (pc := 11) dX12_noLow_11 k_X12_106 ?_
  refine pv_iload_1 (pc := 14) dX12_noLow_14 ?_
  refine pv_i2l (pc := 15) dX12_noLow_15 ?_
  refine pv_ladd (pc := 16) dX12_noLow_16 ?_
  refine pv_lret (pc := 17) dX12_noLow_17 rfl ?_
  subst hk
  exact ⟨rfl, rfl, rfl, rfl, rfl⟩

set_option maxRecDepth 100000 in
set_option maxHeartbeats 4000000 in
theorem c_X12_isShelf {G : pv_G} {d : Nat} {s : Int32} {t : pv_T} {I : pv_I} {L : pv_L} {Rf : pv_R}  : pv_Mt G mX12_isShelf d 0 0 [.ref 61, .int s] t I L Rf (pv_is (some (.int (pv_b (s_sh s)))) t I L Rf) := by
  refine pv_mt mgX12_isShelf.2.2.2.2.2 [.ref 61, .int s] rfl (Nat.le_of_ble_eq_true rfl) ?_
  refine pv_iload_1 (pc := 0) dX12_isShelf_0 ?_
  refine pv_if_lt (pc := 1) (tgt := 14) dX12_isShelf_1 (by decide) (fun h1 => ?_) (fun h1 => ?_)
  · refine pv_iconst (pc := 14) (v := 0) dX12_isShelf_14 (by decide) ?_
    refine pv_iret (pc := 15) dX12_isShelf_15 rfl rfl ?_
    refine ⟨congrArg (fun z => some (Value.int z)) ?_, rfl, rfl, rfl, rfl⟩
    simp only [Int32.lt_iff_toInt_lt, Int32.le_iff_toInt_le, Int64.lt_iff_toInt_lt, Int64.le_iff_toInt_le, pv_b, Bool.and_eq_true, Bool.or_eq_true, decide_eq_true_eq, s_sh, (show (0 : Int32).toInt = 0 from by decide), (show (8 : Int32).toInt = 8 from by decide)] at *
    first | rw [if_pos (by omega)] | rw [if_neg (by omega)]
  · refine pv_iload_1 (pc := 4) dX12_isShelf_4 ?_
    refine pv_bipush (pc := 5) (v := 8) dX12_isShelf_5 (by decide) ?_
    refine pv_icmp_ge (pc := 7) (tgt := 14) dX12_isShelf_7 (by decide) (fun h7 => ?_) (fun h7 => ?_)
    · refine pv_iconst (pc := 14) (v := 0) dX12_isShelf_14 (by decide) ?_
      refine pv_iret (pc := 15) dX12_isShelf_15 rfl rfl ?_
      refine ⟨congrArg (fun z => some (Value.int z)) ?_, rfl, rfl, rfl, rfl⟩
      simp only [Int32.lt_iff_toInt_lt, Int32.le_iff_toInt_le, Int64.lt_iff_toInt_lt, Int64.le_iff_toInt_le, pv_b, Bool.and_eq_true, Bool.or_eq_true, decide_eq_true_eq, s_sh, (show (0 : Int32).toInt = 0 from by decide), (show (8 : Int32).toInt = 8 from by decide)] at *
      first | rw [if_pos (by omega)] | rw [if_neg (by omega)]
    · refine pv_iconst (pc := 10) (v := 1) dX12_isShelf_10 (by decide) ?_
      refine pv_goto (pc := 11) (tgt := 15) dX12_isShelf_11 (by decide) ?_
      refine pv_iret (pc := 15) dX12_isShelf_15 rfl rfl ?_
      refine ⟨congrArg (fun z => some (Value.int z)) ?_, rfl, rfl, rfl, rfl⟩
      simp only [Int32.lt_iff_toInt_lt, Int32.le_iff_toInt_le, Int64.lt_iff_toInt_lt, Int64.le_iff_toInt_le, pv_b, Bool.and_eq_true, Bool.or_eq_true, decide_eq_true_eq, s_sh, (show (0 : Int32).toInt = 0 from by decide), (show (8 : Int32).toInt = 8 from by decide)] at *
      first | rw [if_pos (by omega)] | rw [if_neg (by omega)]

set_option maxRecDepth 100000 in
set_option maxHeartbeats 4000000 in
theorem c_X12_isFigure {G : pv_G} {d : Nat} {f : Int32} {t : pv_T} {I : pv_I} {L : pv_L} {Rf : pv_R} (hT : sh_ok t) : pv_Mt G mX12_isFigure d 0 0 [.ref 61, .int f] t I L Rf (pv_is (some (.int (pv_b (decide (0 ≤ f) && decide (f < I 61 0))))) t I L Rf) := by
  refine pv_mt mgX12_isFigure.2.2.2.2.2 [.ref 61, .int f] rfl (Nat.le_of_ble_eq_true rfl) ?_
  refine pv_iload_1 (pc := 0) dX12_isFigure_0 ?_
  refine pv_if_lt (pc := 1) (tgt := 16) dX12_isFigure_1 (by decide) (fun h1 => ?_) (fun h1 => ?_)
  · refine pv_iconst (pc := 16) (v := 0) dX12_isFigure_16 (by decide) ?_
    refine pv_iret (pc := 17) dX12_isFigure_17 rfl rfl ?_
    refine ⟨congrArg (fun z => some (Value.int z)) ?_, rfl, rfl, rfl, rfl⟩
    simp only [Int32.lt_iff_toInt_lt, Int32.le_iff_toInt_le, Int64.lt_iff_toInt_lt, Int64.le_iff_toInt_le, pv_b, Bool.and_eq_true, Bool.or_eq_true, decide_eq_true_eq, (show (0 : Int32).toInt = 0 from by decide)] at *
    first | rw [if_pos (by omega)] | rw [if_neg (by omega)]
  · refine pv_iload_1 (pc := 4) dX12_isFigure_4 ?_
    refine pv_aload_0 (pc := 5) dX12_isFigure_5 ?_
    refine pv_getI (pc := 6) dX12_isFigure_6 fg_X12_108_12 rfl (by decide) (sx_61 hT) ?_
    refine pv_icmp_ge (pc := 9) (tgt := 16) dX12_isFigure_9 (by decide) (fun h9 => ?_) (fun h9 => ?_)
    · refine pv_iconst (pc := 16) (v := 0) dX12_isFigure_16 (by decide) ?_
      refine pv_iret (pc := 17) dX12_isFigure_17 rfl rfl ?_
      refine ⟨congrArg (fun z => some (Value.int z)) ?_, rfl, rfl, rfl, rfl⟩
      simp only [Int32.lt_iff_toInt_lt, Int32.le_iff_toInt_le, Int64.lt_iff_toInt_lt, Int64.le_iff_toInt_le, pv_b, Bool.and_eq_true, Bool.or_eq_true, decide_eq_true_eq, (show (0 : Int32).toInt = 0 from by decide)] at *
      first | rw [if_pos (by omega)] | rw [if_neg (by omega)]
    · refine pv_iconst (pc := 12) (v := 1) dX12_isFigure_12 (by decide) ?_
      refine pv_goto (pc := 13) (tgt := 17) dX12_isFigure_13 (by decide) ?_
      refine pv_iret (pc := 17) dX12_isFigure_17 rfl rfl ?_
      refine ⟨congrArg (fun z => some (Value.int z)) ?_, rfl, rfl, rfl, rfl⟩
      simp only [Int32.lt_iff_toInt_lt, Int32.le_iff_toInt_le, Int64.lt_iff_toInt_lt, Int64.le_iff_toInt_le, pv_b, Bool.and_eq_true, Bool.or_eq_true, decide_eq_true_eq, (show (0 : Int32).toInt = 0 from by decide)] at *
      first | rw [if_pos (by omega)] | rw [if_neg (by omega)]

set_option maxRecDepth 100000 in
set_option maxHeartbeats 4000000 in
theorem c_X12_isChange {G : pv_G} {d : Nat} {k : Int32} {t : pv_T} {I : pv_I} {L : pv_L} {Rf : pv_R}  : pv_Mt G mX12_isChange d 0 0 [.ref 61, .int k] t I L Rf (pv_is (some (.int (pv_b (s_isC k)))) t I L Rf) := by
  refine pv_mt mgX12_isChange.2.2.2.2.2 [.ref 61, .int k] rfl (Nat.le_of_ble_eq_true rfl) ?_
  refine pv_iload_1 (pc := 0) dX12_isChange_0 ?_
  refine pv_iconst (pc := 1) (v := 1) dX12_isChange_1 (by decide) ?_
  refine pv_icmp_eq (pc := 2) (tgt := 15) dX12_isChange_2 (by decide) (fun h2 => ?_) (fun h2 => ?_)
  · refine pv_iconst (pc := 15) (v := 1) dX12_isChange_15 (by decide) ?_
    refine pv_goto (pc := 16) (tgt := 20) dX12_isChange_16 (by decide) ?_
    refine pv_iret (pc := 20) dX12_isChange_20 rfl rfl ?_
    refine ⟨?_, rfl, rfl, rfl, rfl⟩
    first | (simp only [s_isC, pv_b, *, ↓reduceIte]; done) | (simp [s_isC, pv_b, *]; done) | (simp_all [s_isC, pv_b]; done)
  · refine pv_iload_1 (pc := 5) dX12_isChange_5 ?_
    refine pv_iconst (pc := 6) (v := 2) dX12_isChange_6 (by decide) ?_
    refine pv_icmp_eq (pc := 7) (tgt := 15) dX12_isChange_7 (by decide) (fun h7 => ?_) (fun h7 => ?_)
    · refine pv_iconst (pc := 15) (v := 1) dX12_isChange_15 (by decide) ?_
      refine pv_goto (pc := 16) (tgt := 20) dX12_isChange_16 (by decide) ?_
      refine pv_iret (pc := 20) dX12_isChange_20 rfl rfl ?_
      refine ⟨?_, rfl, rfl, rfl, rfl⟩
      first | (simp only [s_isC, pv_b, *, ↓reduceIte]; done) | (simp [s_isC, pv_b, *]; done) | (simp_all [s_isC, pv_b]; done)
    · refine pv_iload_1 (pc := 10) dX12_isChange_10 ?_
      refine pv_iconst (pc := 11) (v := 3) dX12_isChange_11 (by decide) ?_
      refine pv_icmp_ne (pc := 12) (tgt := 19) dX12_isChange_12 (by decide) (fun h12 => ?_) (fun h12 => ?_)
      · refine pv_iconst (pc := 19) (v := 0) dX12_isChange_19 (by decide) ?_
        refine pv_iret (pc := 20) dX12_isChange_20 rfl rfl ?_
        refine ⟨?_, rfl, rfl, rfl, rfl⟩
        first | (simp only [s_isC, pv_b, *, ↓reduceIte]; done) | (simp [s_isC, pv_b, *]; done) | (simp_all [s_isC, pv_b]; done)
      · refine pv_iconst (pc := 15) (v := 1) dX12_isChange_15 (by decide) ?_
        refine pv_goto (pc := 16) (tgt := 20) dX12_isChange_16 (by decide) ?_
        refine pv_iret (pc := 20) dX12_isChange_20 rfl rfl ?_
        refine ⟨?_, rfl, rfl, rfl, rfl⟩
        first | (simp only [s_isC, pv_b, *, ↓reduceIte]; done) | (simp [s_isC, pv_b, *]; done) | (simp_all [s_isC, pv_b]; done)

set_option maxRecDepth 100000 in
set_option maxHeartbeats 4000000 in
theorem c_X12_isTurn {G : pv_G} {d : Nat} {k : Int32} {t : pv_T} {I : pv_I} {L : pv_L} {Rf : pv_R}  : pv_Mt G mX12_isTurn d 0 0 [.ref 61, .int k] t I L Rf (pv_is (some (.int (pv_b (s_isT k)))) t I L Rf) := by
  refine pv_mt mgX12_isTurn.2.2.2.2.2 [.ref 61, .int k] rfl (Nat.le_of_ble_eq_true rfl) ?_
  refine pv_iload_1 (pc := 0) dX12_isTurn_0 ?_
  refine pv_iconst (pc := 1) (v := 4) dX12_isTurn_1 (by decide) ?_
  refine pv_icmp_eq (pc := 2) (tgt := 16) dX12_isTurn_2 (by decide) (fun h2 => ?_) (fun h2 => ?_)
  · refine pv_iconst (pc := 16) (v := 1) dX12_isTurn_16 (by decide) ?_
    refine pv_goto (pc := 17) (tgt := 21) dX12_isTurn_17 (by decide) ?_
    refine pv_iret (pc := 21) dX12_isTurn_21 rfl rfl ?_
    refine ⟨?_, rfl, rfl, rfl, rfl⟩
    first | (simp only [s_isT, pv_b, *, ↓reduceIte]; done) | (simp [s_isT, pv_b, *]; done) | (simp_all [s_isT, pv_b]; done)
  · refine pv_iload_1 (pc := 5) dX12_isTurn_5 ?_
    refine pv_iconst (pc := 6) (v := 5) dX12_isTurn_6 (by decide) ?_
    refine pv_icmp_eq (pc := 7) (tgt := 16) dX12_isTurn_7 (by decide) (fun h7 => ?_) (fun h7 => ?_)
    · refine pv_iconst (pc := 16) (v := 1) dX12_isTurn_16 (by decide) ?_
      refine pv_goto (pc := 17) (tgt := 21) dX12_isTurn_17 (by decide) ?_
      refine pv_iret (pc := 21) dX12_isTurn_21 rfl rfl ?_
      refine ⟨?_, rfl, rfl, rfl, rfl⟩
      first | (simp only [s_isT, pv_b, *, ↓reduceIte]; done) | (simp [s_isT, pv_b, *]; done) | (simp_all [s_isT, pv_b]; done)
    · refine pv_iload_1 (pc := 10) dX12_isTurn_10 ?_
      refine pv_bipush (pc := 11) (v := 6) dX12_isTurn_11 (by decide) ?_
      refine pv_icmp_ne (pc := 13) (tgt := 20) dX12_isTurn_13 (by decide) (fun h13 => ?_) (fun h13 => ?_)
      · refine pv_iconst (pc := 20) (v := 0) dX12_isTurn_20 (by decide) ?_
        refine pv_iret (pc := 21) dX12_isTurn_21 rfl rfl ?_
        refine ⟨?_, rfl, rfl, rfl, rfl⟩
        first | (simp only [s_isT, pv_b, *, ↓reduceIte]; done) | (simp [s_isT, pv_b, *]; done) | (simp_all [s_isT, pv_b]; done)
      · refine pv_iconst (pc := 16) (v := 1) dX12_isTurn_16 (by decide) ?_
        refine pv_goto (pc := 17) (tgt := 21) dX12_isTurn_17 (by decide) ?_
        refine pv_iret (pc := 21) dX12_isTurn_21 rfl rfl ?_
        refine ⟨?_, rfl, rfl, rfl, rfl⟩
        first | (simp only [s_isT, pv_b, *, ↓reduceIte]; done) | (simp [s_isT, pv_b, *]; done) | (simp_all [s_isT, pv_b]; done)

set_option maxRecDepth 100000 in
set_option maxHeartbeats 4000000 in
theorem c_X12_wants {G : pv_G} {d : Nat} {s : Int32} {t : pv_T} {I : pv_I} {L : pv_L} {Rf : pv_R} (hT : sh_ok t) (hR : rf_ok Rf) (hd : 1 ≤ d) : pv_Mt G mX12_wants d 0 0 [.ref 61, .int s] t I L Rf (pv_is (some (.int (s_wants I s))) t I L Rf) := by
  refine pv_mt mgX12_wants.2.2.2.2.2 [.ref 61, .int s] rfl (Nat.le_of_ble_eq_true rfl) ?_
  refine pv_aload_0 (pc := 0) dX12_wants_0 ?_
  refine pv_iload_1 (pc := 1) dX12_wants_1 ?_
  refine pv_callV1 (pc := 2) dX12_wants_2 mgX12_isShelf lv_X12_111_12 (by decide) (sx_61 hT) (by omega) (c_X12_isShelf ) rfl rfl (by decide) ?_
  refine pv_if_ne (pc := 5) (tgt := 12) dX12_wants_5 (by decide) (fun h5 => ?_) (fun h5 => ?_)
  · refine pv_aload_0 (pc := 12) dX12_wants_12 ?_
    refine pv_getR (pc := 13) dX12_wants_13 fg_X12_36_12 rfl (by decide) (sx_61 hT) (rx_61_12 hR) ?_
    refine pv_iload_1 (pc := 16) dX12_wants_16 ?_
    refine pv_ialoadj (pc := 17) dX12_wants_17 (sx_67 hT) rfl (s_sh_in ((pv_b_n0 _).mp h5)) ?_
    refine pv_iconst (pc := 18) (v := 2) dX12_wants_18 (by decide) ?_
    refine pv_icmp_ne (pc := 19) (tgt := 27) dX12_wants_19 (by decide) (fun h19 => ?_) (fun h19 => ?_)
    · refine pv_aload_0 (pc := 27) dX12_wants_27 ?_
      refine pv_getR (pc := 28) dX12_wants_28 fg_X12_36_12 rfl (by decide) (sx_61 hT) (rx_61_12 hR) ?_
      refine pv_iload_1 (pc := 31) dX12_wants_31 ?_
      refine pv_ialoadj (pc := 32) dX12_wants_32 (sx_67 hT) rfl (s_sh_in ((pv_b_n0 _).mp h5)) ?_
      refine pv_if_ne (pc := 33) (tgt := 41) dX12_wants_33 (by decide) (fun h33 => ?_) (fun h33 => ?_)
      · refine pv_iconst (pc := 41) (v := 0) dX12_wants_41 (by decide) ?_
        refine pv_iret (pc := 42) dX12_wants_42 rfl rfl ?_
        refine ⟨?_, rfl, rfl, rfl, rfl⟩
        simp_all [s_wants, pv_b_0, pv_b_n0]
      · refine pv_bipush (pc := 36) (v := (-3)) dX12_wants_36 (by decide) ?_
        refine pv_goto (pc := 38) (tgt := 42) dX12_wants_38 (by decide) ?_
        refine pv_iret (pc := 42) dX12_wants_42 rfl rfl ?_
        refine ⟨?_, rfl, rfl, rfl, rfl⟩
        simp_all [s_wants, pv_b_0, pv_b_n0]
    · refine pv_bipush (pc := 22) (v := (-2)) dX12_wants_22 (by decide) ?_
      refine pv_goto (pc := 24) (tgt := 42) dX12_wants_24 (by decide) ?_
      refine pv_iret (pc := 42) dX12_wants_42 rfl rfl ?_
      refine ⟨?_, rfl, rfl, rfl, rfl⟩
      simp_all [s_wants, pv_b_0, pv_b_n0]
  · refine pv_iconst (pc := 8) (v := (-1)) dX12_wants_8 (by decide) ?_
    refine pv_goto (pc := 9) (tgt := 42) dX12_wants_9 (by decide) ?_
    refine pv_iret (pc := 42) dX12_wants_42 rfl rfl ?_
    refine ⟨?_, rfl, rfl, rfl, rfl⟩
    simp_all [s_wants, pv_b_0, pv_b_n0]

set_option maxRecDepth 100000 in
set_option maxHeartbeats 4000000 in
theorem c_X12_intAt {G : pv_G} {d : Nat} {s i : Int32} {t : pv_T} {I : pv_I} {L : pv_L} {Rf : pv_R} (hT : sh_ok t) (hR : rf_ok Rf) (hs : vp_in s 8) (hi : vp_in i 160) : pv_Mt G mX12_intAt d 0 0 [.ref 61, .int s, .int i] t I L Rf (pv_is (some (.int (L 71 (160 * s.toNatClampNeg + i.toNatClampNeg)).toInt32)) t I L Rf) := by
  refine pv_mt mgX12_intAt.2.2.2.2.2 [.ref 61, .int s, .int i] rfl (Nat.le_of_ble_eq_true rfl) ?_
  refine pv_aload_0 (pc := 0) dX12_intAt_0 ?_
  refine pv_getR (pc := 1) dX12_intAt_1 fg_X12_48_12 rfl (by decide) (sx_61 hT) (rx_61_16 hR) ?_
  refine pv_sipush (pc := 4) (v := 160) dX12_intAt_4 (by decide) ?_
  refine pv_iload_1 (pc := 7) dX12_intAt_7 ?_
  refine pv_imul (pc := 8) dX12_intAt_8 ?_
  refine pv_iload_2 (pc := 9) dX12_intAt_9 ?_
  refine pv_iadd (pc := 10) dX12_intAt_10 ?_
  refine pv_laloadj (pc := 11) dX12_intAt_11 (by decide) (sx_71 hT) rfl (ix_cell hs hi).2 ?_
  refine pv_l2i (pc := 12) dX12_intAt_12 ?_
  refine pv_iret (pc := 13) dX12_intAt_13 rfl rfl ?_
  rw [(ix_cell hs hi).1]
  exact ⟨rfl, rfl, rfl, rfl, rfl⟩

set_option maxRecDepth 100000 in
set_option maxHeartbeats 4000000 in
theorem c_X12_bars {G : pv_G} {d : Nat} {s n : Int32} {t : pv_T} {I : pv_I} {L : pv_L} {Rf : pv_R} (hT : sh_ok t) (hR : rf_ok Rf) (hd : 2 ≤ d) : pv_Mt G mX12_bars d 0 0 [.ref 61, .int s, .int n] t I L Rf (pv_is (some (.int (s_bars I s n))) t I L Rf) := by
  refine pv_mt mgX12_bars.2.2.2.2.2 [.ref 61, .int s, .int n, .retAddr 0] rfl (Nat.le_of_ble_eq_true rfl) ?_
  refine pv_aload_0 (pc := 0) dX12_bars_0 ?_
  refine pv_iload_1 (pc := 1) dX12_bars_1 ?_
  refine pv_callV1 (pc := 2) dX12_bars_2 mgX12_wants lv_X12_128_12 (by decide) (sx_61 hT) (by omega) (c_X12_wants hT hR (by omega)) rfl rfl (by decide) ?_
  refine pv_istore_3 (pc := 5) dX12_bars_5 (by decide) rfl ?_
  refine pv_iload_3 (pc := 6) dX12_bars_6 ?_
  refine pv_if_eq (pc := 7) (tgt := 12) dX12_bars_7 (by decide) (fun h7 => ?_) (fun h7 => ?_)
  · refine pv_iload_2 (pc := 12) dX12_bars_12 ?_
    refine pv_if_ge (pc := 13) (tgt := 21) dX12_bars_13 (by decide) (fun h13 => ?_) (fun h13 => ?_)
    · refine pv_iload_2 (pc := 21) dX12_bars_21 ?_
      refine pv_aload_0 (pc := 22) dX12_bars_22 ?_
      refine pv_getR (pc := 23) dX12_bars_23 fg_X12_42_12 rfl (by decide) (sx_61 hT) (rx_61_14 hR) ?_
      refine pv_iload_1 (pc := 26) dX12_bars_26 ?_
      refine pv_ialoadj (pc := 27) dX12_bars_27 (sx_69 hT) rfl (s_wants_0 (by assumption)) ?_
      refine pv_icmp_le (pc := 28) (tgt := 36) dX12_bars_28 (by decide) (fun h28 => ?_) (fun h28 => ?_)
      · refine pv_iconst (pc := 36) (v := 0) dX12_bars_36 (by decide) ?_
        refine pv_iret (pc := 37) dX12_bars_37 rfl rfl ?_
        refine ⟨?_, rfl, rfl, rfl, rfl⟩
        first | (simp only [s_bars, *, ↓reduceIte]; done) | (simp [s_bars, *]; done) | (simp_all [s_bars]; done)
      · refine pv_bipush (pc := 31) (v := (-5)) dX12_bars_31 (by decide) ?_
        refine pv_goto (pc := 33) (tgt := 37) dX12_bars_33 (by decide) ?_
        refine pv_iret (pc := 37) dX12_bars_37 rfl rfl ?_
        refine ⟨?_, rfl, rfl, rfl, rfl⟩
        first | (simp only [s_bars, *, ↓reduceIte]; done) | (simp [s_bars, *]; done) | (simp_all [s_bars]; done)
    · refine pv_bipush (pc := 16) (v := (-4)) dX12_bars_16 (by decide) ?_
      refine pv_goto (pc := 18) (tgt := 37) dX12_bars_18 (by decide) ?_
      refine pv_iret (pc := 37) dX12_bars_37 rfl rfl ?_
      refine ⟨?_, rfl, rfl, rfl, rfl⟩
      first | (simp only [s_bars, *, ↓reduceIte]; done) | (simp [s_bars, *]; done) | (simp_all [s_bars]; done)
  · refine pv_iload_3 (pc := 10) dX12_bars_10 ?_
    refine pv_iret (pc := 11) dX12_bars_11 rfl rfl ?_
    refine ⟨?_, rfl, rfl, rfl, rfl⟩
    first | (simp only [s_bars, *, ↓reduceIte]; done) | (simp [s_bars, *]; done) | (simp_all [s_bars]; done)

