/-! the small words of the numbers -/
def s_rng (k lo hi : Int32) : Bool := decide (lo ≤ k) && decide (k ≤ hi)
def s_wide (p q m : Int64) : Bool := decide (m < p) || decide (p < -m) || decide (m < q) || decide (q < -m)
def s_abs (x : Int64) : Int64 := if 0 < x then x else -x
def s_stepP (s : Int32) (p q : Int64) : Int64 := if s = 0 then p + q else if s = 1 then p - q else if p = 0 then 1 else if 0 < p then -q else q
def s_stepQ (s : Int32) (p q : Int64) : Int64 := if s = 2 then s_abs p else q
set_option maxRecDepth 100000 in
set_option maxHeartbeats 4000000 in
theorem c_X11_isKind {G : pv_G} {d : Nat} {k : Int32} {t : pv_T} {I : pv_I} {L : pv_L} {Rf : pv_R} : pv_Mt G mX11_isKind d 0 0 [.int k] t I L Rf (pv_is (some (.int (pv_b (decide (0 ≤ k) && decide (k < 7))))) t I L Rf) := by
  refine pv_mt mgX11_isKind.2.2.2.2.2 [.int k] rfl (Nat.le_of_ble_eq_true rfl) ?_
  refine pv_iload_0 (pc := 0) dX11_isKind_0 ?_
  refine pv_if_lt (pc := 1) (tgt := 14) dX11_isKind_1 (by decide) (fun h1 => ?_) (fun h1 => ?_)
  · refine pv_iconst (pc := 14) (v := 0) dX11_isKind_14 (by decide) ?_
    refine pv_iret (pc := 15) dX11_isKind_15 rfl rfl ?_
    refine ⟨congrArg (fun z => some (Value.int z)) ?_, rfl, rfl, rfl, rfl⟩
    simp only [Int32.lt_iff_toInt_lt, Int32.le_iff_toInt_le, Int64.lt_iff_toInt_lt, Int64.le_iff_toInt_le, pv_b, Bool.and_eq_true, Bool.or_eq_true, decide_eq_true_eq, (show (0 : Int32).toInt = 0 from by decide), (show (7 : Int32).toInt = 7 from by decide)] at *
    first | rw [if_pos (by omega)] | rw [if_neg (by omega)]
  · refine pv_iload_0 (pc := 4) dX11_isKind_4 ?_
    refine pv_bipush (pc := 5) (v := 7) dX11_isKind_5 (by decide) ?_
    refine pv_icmp_ge (pc := 7) (tgt := 14) dX11_isKind_7 (by decide) (fun h7 => ?_) (fun h7 => ?_)
    · refine pv_iconst (pc := 14) (v := 0) dX11_isKind_14 (by decide) ?_
      refine pv_iret (pc := 15) dX11_isKind_15 rfl rfl ?_
      refine ⟨congrArg (fun z => some (Value.int z)) ?_, rfl, rfl, rfl, rfl⟩
      simp only [Int32.lt_iff_toInt_lt, Int32.le_iff_toInt_le, Int64.lt_iff_toInt_lt, Int64.le_iff_toInt_le, pv_b, Bool.and_eq_true, Bool.or_eq_true, decide_eq_true_eq, (show (0 : Int32).toInt = 0 from by decide), (show (7 : Int32).toInt = 7 from by decide)] at *
      first | rw [if_pos (by omega)] | rw [if_neg (by omega)]
    · refine pv_iconst (pc := 10) (v := 1) dX11_isKind_10 (by decide) ?_
      refine pv_goto (pc := 11) (tgt := 15) dX11_isKind_11 (by decide) ?_
      refine pv_iret (pc := 15) dX11_isKind_15 rfl rfl ?_
      refine ⟨congrArg (fun z => some (Value.int z)) ?_, rfl, rfl, rfl, rfl⟩
      simp only [Int32.lt_iff_toInt_lt, Int32.le_iff_toInt_le, Int64.lt_iff_toInt_lt, Int64.le_iff_toInt_le, pv_b, Bool.and_eq_true, Bool.or_eq_true, decide_eq_true_eq, (show (0 : Int32).toInt = 0 from by decide), (show (7 : Int32).toInt = 7 from by decide)] at *
      first | rw [if_pos (by omega)] | rw [if_neg (by omega)]

set_option maxRecDepth 100000 in
set_option maxHeartbeats 4000000 in
theorem c_X11_isA {G : pv_G} {d : Nat} {k : Int32} {t : pv_T} {I : pv_I} {L : pv_L} {Rf : pv_R} : pv_Mt G mX11_isA d 0 0 [.int k] t I L Rf (pv_is (some (.int (pv_b (decide (0 ≤ k) && decide (k ≤ 9))))) t I L Rf) := by
  refine pv_mt mgX11_isA.2.2.2.2.2 [.int k] rfl (Nat.le_of_ble_eq_true rfl) ?_
  refine pv_iload_0 (pc := 0) dX11_isA_0 ?_
  refine pv_if_lt (pc := 1) (tgt := 14) dX11_isA_1 (by decide) (fun h1 => ?_) (fun h1 => ?_)
  · refine pv_iconst (pc := 14) (v := 0) dX11_isA_14 (by decide) ?_
    refine pv_iret (pc := 15) dX11_isA_15 rfl rfl ?_
    refine ⟨congrArg (fun z => some (Value.int z)) ?_, rfl, rfl, rfl, rfl⟩
    simp only [Int32.lt_iff_toInt_lt, Int32.le_iff_toInt_le, Int64.lt_iff_toInt_lt, Int64.le_iff_toInt_le, pv_b, Bool.and_eq_true, Bool.or_eq_true, decide_eq_true_eq, (show (0 : Int32).toInt = 0 from by decide), (show (9 : Int32).toInt = 9 from by decide)] at *
    first | rw [if_pos (by omega)] | rw [if_neg (by omega)]
  · refine pv_iload_0 (pc := 4) dX11_isA_4 ?_
    refine pv_bipush (pc := 5) (v := 9) dX11_isA_5 (by decide) ?_
    refine pv_icmp_gt (pc := 7) (tgt := 14) dX11_isA_7 (by decide) (fun h7 => ?_) (fun h7 => ?_)
    · refine pv_iconst (pc := 14) (v := 0) dX11_isA_14 (by decide) ?_
      refine pv_iret (pc := 15) dX11_isA_15 rfl rfl ?_
      refine ⟨congrArg (fun z => some (Value.int z)) ?_, rfl, rfl, rfl, rfl⟩
      simp only [Int32.lt_iff_toInt_lt, Int32.le_iff_toInt_le, Int64.lt_iff_toInt_lt, Int64.le_iff_toInt_le, pv_b, Bool.and_eq_true, Bool.or_eq_true, decide_eq_true_eq, (show (0 : Int32).toInt = 0 from by decide), (show (9 : Int32).toInt = 9 from by decide)] at *
      first | rw [if_pos (by omega)] | rw [if_neg (by omega)]
    · refine pv_iconst (pc := 10) (v := 1) dX11_isA_10 (by decide) ?_
      refine pv_goto (pc := 11) (tgt := 15) dX11_isA_11 (by decide) ?_
      refine pv_iret (pc := 15) dX11_isA_15 rfl rfl ?_
      refine ⟨congrArg (fun z => some (Value.int z)) ?_, rfl, rfl, rfl, rfl⟩
      simp only [Int32.lt_iff_toInt_lt, Int32.le_iff_toInt_le, Int64.lt_iff_toInt_lt, Int64.le_iff_toInt_le, pv_b, Bool.and_eq_true, Bool.or_eq_true, decide_eq_true_eq, (show (0 : Int32).toInt = 0 from by decide), (show (9 : Int32).toInt = 9 from by decide)] at *
      first | rw [if_pos (by omega)] | rw [if_neg (by omega)]

set_option maxRecDepth 100000 in
set_option maxHeartbeats 4000000 in
theorem c_X11_isCost {G : pv_G} {d : Nat} {k : Int32} {t : pv_T} {I : pv_I} {L : pv_L} {Rf : pv_R} : pv_Mt G mX11_isCost d 0 0 [.int k] t I L Rf (pv_is (some (.int (pv_b (decide (1 ≤ k) && decide (k ≤ 9))))) t I L Rf) := by
  refine pv_mt mgX11_isCost.2.2.2.2.2 [.int k] rfl (Nat.le_of_ble_eq_true rfl) ?_
  refine pv_iload_0 (pc := 0) dX11_isCost_0 ?_
  refine pv_iconst (pc := 1) (v := 1) dX11_isCost_1 (by decide) ?_
  refine pv_icmp_lt (pc := 2) (tgt := 15) dX11_isCost_2 (by decide) (fun h2 => ?_) (fun h2 => ?_)
  · refine pv_iconst (pc := 15) (v := 0) dX11_isCost_15 (by decide) ?_
    refine pv_iret (pc := 16) dX11_isCost_16 rfl rfl ?_
    refine ⟨congrArg (fun z => some (Value.int z)) ?_, rfl, rfl, rfl, rfl⟩
    simp only [Int32.lt_iff_toInt_lt, Int32.le_iff_toInt_le, Int64.lt_iff_toInt_lt, Int64.le_iff_toInt_le, pv_b, Bool.and_eq_true, Bool.or_eq_true, decide_eq_true_eq, (show (1 : Int32).toInt = 1 from by decide), (show (9 : Int32).toInt = 9 from by decide)] at *
    first | rw [if_pos (by omega)] | rw [if_neg (by omega)]
  · refine pv_iload_0 (pc := 5) dX11_isCost_5 ?_
    refine pv_bipush (pc := 6) (v := 9) dX11_isCost_6 (by decide) ?_
    refine pv_icmp_gt (pc := 8) (tgt := 15) dX11_isCost_8 (by decide) (fun h8 => ?_) (fun h8 => ?_)
    · refine pv_iconst (pc := 15) (v := 0) dX11_isCost_15 (by decide) ?_
      refine pv_iret (pc := 16) dX11_isCost_16 rfl rfl ?_
      refine ⟨congrArg (fun z => some (Value.int z)) ?_, rfl, rfl, rfl, rfl⟩
      simp only [Int32.lt_iff_toInt_lt, Int32.le_iff_toInt_le, Int64.lt_iff_toInt_lt, Int64.le_iff_toInt_le, pv_b, Bool.and_eq_true, Bool.or_eq_true, decide_eq_true_eq, (show (1 : Int32).toInt = 1 from by decide), (show (9 : Int32).toInt = 9 from by decide)] at *
      first | rw [if_pos (by omega)] | rw [if_neg (by omega)]
    · refine pv_iconst (pc := 11) (v := 1) dX11_isCost_11 (by decide) ?_
      refine pv_goto (pc := 12) (tgt := 16) dX11_isCost_12 (by decide) ?_
      refine pv_iret (pc := 16) dX11_isCost_16 rfl rfl ?_
      refine ⟨congrArg (fun z => some (Value.int z)) ?_, rfl, rfl, rfl, rfl⟩
      simp only [Int32.lt_iff_toInt_lt, Int32.le_iff_toInt_le, Int64.lt_iff_toInt_lt, Int64.le_iff_toInt_le, pv_b, Bool.and_eq_true, Bool.or_eq_true, decide_eq_true_eq, (show (1 : Int32).toInt = 1 from by decide), (show (9 : Int32).toInt = 9 from by decide)] at *
      first | rw [if_pos (by omega)] | rw [if_neg (by omega)]

set_option maxRecDepth 100000 in
set_option maxHeartbeats 4000000 in
theorem c_X11_isWide {G : pv_G} {d : Nat} {p q m : Int64} {t : pv_T} {I : pv_I} {L : pv_L} {Rf : pv_R} : pv_Mt G mX11_isWide d 0 0 [.long p, .long q, .long m] t I L Rf (pv_is (some (.int (pv_b (s_wide p q m)))) t I L Rf) := by
  refine pv_mt mgX11_isWide.2.2.2.2.2 [.long p, .retAddr 0, .long q, .retAddr 0, .long m, .retAddr 0] rfl (Nat.le_of_ble_eq_true rfl) ?_
  refine pv_lload_0 (pc := 0) dX11_isWide_0 ?_
  refine pv_lload_4 (pc := 1) dX11_isWide_1 ?_
  refine pv_lcmp_gt (pc := 3) (tgt := 30) dX11_isWide_3 dX11_isWide_4 (by decide) (fun h3 => ?_) (fun h3 => ?_)
  · refine pv_iconst (pc := 30) (v := 1) dX11_isWide_30 (by decide) ?_
    refine pv_goto (pc := 31) (tgt := 35) dX11_isWide_31 (by decide) ?_
    refine pv_iret (pc := 35) dX11_isWide_35 rfl rfl ?_
    refine ⟨congrArg (fun z => some (Value.int z)) ?_, rfl, rfl, rfl, rfl⟩
    simp only [Int32.lt_iff_toInt_lt, Int32.le_iff_toInt_le, Int64.lt_iff_toInt_lt, Int64.le_iff_toInt_le, pv_b, Bool.and_eq_true, Bool.or_eq_true, decide_eq_true_eq, s_wide] at *
    first | rw [if_pos (by omega)] | rw [if_neg (by omega)]
  · refine pv_lload_0 (pc := 7) dX11_isWide_7 ?_
    refine pv_lload_4 (pc := 8) dX11_isWide_8 ?_
    refine pv_lneg (pc := 10) dX11_isWide_10 ?_
    refine pv_lcmp_lt (pc := 11) (tgt := 30) dX11_isWide_11 dX11_isWide_12 (by decide) (fun h11 => ?_) (fun h11 => ?_)
    · refine pv_iconst (pc := 30) (v := 1) dX11_isWide_30 (by decide) ?_
      refine pv_goto (pc := 31) (tgt := 35) dX11_isWide_31 (by decide) ?_
      refine pv_iret (pc := 35) dX11_isWide_35 rfl rfl ?_
      refine ⟨congrArg (fun z => some (Value.int z)) ?_, rfl, rfl, rfl, rfl⟩
      simp only [Int32.lt_iff_toInt_lt, Int32.le_iff_toInt_le, Int64.lt_iff_toInt_lt, Int64.le_iff_toInt_le, pv_b, Bool.and_eq_true, Bool.or_eq_true, decide_eq_true_eq, s_wide] at *
      first | rw [if_pos (by omega)] | rw [if_neg (by omega)]
    · refine pv_lload_2 (pc := 15) dX11_isWide_15 ?_
      refine pv_lload_4 (pc := 16) dX11_isWide_16 ?_
      refine pv_lcmp_gt (pc := 18) (tgt := 30) dX11_isWide_18 dX11_isWide_19 (by decide) (fun h18 => ?_) (fun h18 => ?_)
      · refine pv_iconst (pc := 30) (v := 1) dX11_isWide_30 (by decide) ?_
        refine pv_goto (pc := 31) (tgt := 35) dX11_isWide_31 (by decide) ?_
        refine pv_iret (pc := 35) dX11_isWide_35 rfl rfl ?_
        refine ⟨congrArg (fun z => some (Value.int z)) ?_, rfl, rfl, rfl, rfl⟩
        simp only [Int32.lt_iff_toInt_lt, Int32.le_iff_toInt_le, Int64.lt_iff_toInt_lt, Int64.le_iff_toInt_le, pv_b, Bool.and_eq_true, Bool.or_eq_true, decide_eq_true_eq, s_wide] at *
        first | rw [if_pos (by omega)] | rw [if_neg (by omega)]
      · refine pv_lload_2 (pc := 22) dX11_isWide_22 ?_
        refine pv_lload_4 (pc := 23) dX11_isWide_23 ?_
        refine pv_lneg (pc := 25) dX11_isWide_25 ?_
        refine pv_lcmp_ge (pc := 26) (tgt := 34) dX11_isWide_26 dX11_isWide_27 (by decide) (fun h26 => ?_) (fun h26 => ?_)
        · refine pv_iconst (pc := 34) (v := 0) dX11_isWide_34 (by decide) ?_
          refine pv_iret (pc := 35) dX11_isWide_35 rfl rfl ?_
          refine ⟨congrArg (fun z => some (Value.int z)) ?_, rfl, rfl, rfl, rfl⟩
          simp only [Int32.lt_iff_toInt_lt, Int32.le_iff_toInt_le, Int64.lt_iff_toInt_lt, Int64.le_iff_toInt_le, pv_b, Bool.and_eq_true, Bool.or_eq_true, decide_eq_true_eq, s_wide] at *
          first | rw [if_pos (by omega)] | rw [if_neg (by omega)]
        · refine pv_iconst (pc := 30) (v := 1) dX11_isWide_30 (by decide) ?_
          refine pv_goto (pc := 31) (tgt := 35) dX11_isWide_31 (by decide) ?_
          refine pv_iret (pc := 35) dX11_isWide_35 rfl rfl ?_
          refine ⟨congrArg (fun z => some (Value.int z)) ?_, rfl, rfl, rfl, rfl⟩
          simp only [Int32.lt_iff_toInt_lt, Int32.le_iff_toInt_le, Int64.lt_iff_toInt_lt, Int64.le_iff_toInt_le, pv_b, Bool.and_eq_true, Bool.or_eq_true, decide_eq_true_eq, s_wide] at *
          first | rw [if_pos (by omega)] | rw [if_neg (by omega)]

set_option maxRecDepth 100000 in
set_option maxHeartbeats 4000000 in
theorem c_X11_stepP {G : pv_G} {d : Nat} {s : Int32} {p q : Int64} {t : pv_T} {I : pv_I} {L : pv_L} {Rf : pv_R} : pv_Mt G mX11_stepP d 0 0 [.int s, .long p, .long q] t I L Rf (pv_is (some (.long (s_stepP s p q))) t I L Rf) := by
  refine pv_mt mgX11_stepP.2.2.2.2.2 [.int s, .long p, .retAddr 0, .long q, .retAddr 0] rfl (Nat.le_of_ble_eq_true rfl) ?_
  refine pv_iload_0 (pc := 0) dX11_stepP_0 ?_
  refine pv_if_ne (pc := 1) (tgt := 8) dX11_stepP_1 (by decide) (fun h1 => ?_) (fun h1 => ?_)
  · refine pv_iload_0 (pc := 8) dX11_stepP_8 ?_
    refine pv_iconst (pc := 9) (v := 1) dX11_stepP_9 (by decide) ?_
    refine pv_icmp_ne (pc := 10) (tgt := 17) dX11_stepP_10 (by decide) (fun h10 => ?_) (fun h10 => ?_)
    · refine pv_lload_1 (pc := 17) dX11_stepP_17 ?_
      refine pv_lconst (pc := 18) (v := 0) dX11_stepP_18 (by decide) ?_
      refine pv_lcmp_ne (pc := 19) (tgt := 25) dX11_stepP_19 dX11_stepP_20 (by decide) (fun h19 => ?_) (fun h19 => ?_)
      · refine pv_lload_1 (pc := 25) dX11_stepP_25 ?_
        refine pv_lconst (pc := 26) (v := 0) dX11_stepP_26 (by decide) ?_
        refine pv_lcmp_le (pc := 27) (tgt := 36) dX11_stepP_27 dX11_stepP_28 (by decide) (fun h27 => ?_) (fun h27 => ?_)
        · refine pv_lload_3 (pc := 36) dX11_stepP_36 ?_
          refine pv_lret (pc := 37) dX11_stepP_37 rfl ?_
          refine ⟨?_, rfl, rfl, rfl, rfl⟩
          first | (simp only [s_stepP, *, ↓reduceIte]; done) | (simp [s_stepP, *]; done) | (simp_all [s_stepP]; done)
        · refine pv_lload_3 (pc := 31) dX11_stepP_31 ?_
          refine pv_lneg (pc := 32) dX11_stepP_32 ?_
          refine pv_goto (pc := 33) (tgt := 37) dX11_stepP_33 (by decide) ?_
          refine pv_lret (pc := 37) dX11_stepP_37 rfl ?_
          refine ⟨?_, rfl, rfl, rfl, rfl⟩
          first | (simp only [s_stepP, *, ↓reduceIte]; done) | (simp [s_stepP, *]; done) | (simp_all [s_stepP]; done)
      · refine pv_lconst (pc := 23) (v := 1) dX11_stepP_23 (by decide) ?_
        refine pv_lret (pc := 24) dX11_stepP_24 rfl ?_
        refine ⟨?_, rfl, rfl, rfl, rfl⟩
        first | (simp only [s_stepP, *, ↓reduceIte]; done) | (simp [s_stepP, *]; done) | (simp_all [s_stepP]; done)
    · refine pv_lload_1 (pc := 13) dX11_stepP_13 ?_
      refine pv_lload_3 (pc := 14) dX11_stepP_14 ?_
      refine pv_lsub (pc := 15) dX11_stepP_15 ?_
      refine pv_lret (pc := 16) dX11_stepP_16 rfl ?_
      refine ⟨?_, rfl, rfl, rfl, rfl⟩
      first | (simp only [s_stepP, *, ↓reduceIte]; done) | (simp [s_stepP, *]; done) | (simp_all [s_stepP]; done)
  · refine pv_lload_1 (pc := 4) dX11_stepP_4 ?_
    refine pv_lload_3 (pc := 5) dX11_stepP_5 ?_
    refine pv_ladd (pc := 6) dX11_stepP_6 ?_
    refine pv_lret (pc := 7) dX11_stepP_7 rfl ?_
    refine ⟨?_, rfl, rfl, rfl, rfl⟩
    first | (simp only [s_stepP, *, ↓reduceIte]; done) | (simp [s_stepP, *]; done) | (simp_all [s_stepP]; done)

set_option maxRecDepth 100000 in
set_option maxHeartbeats 4000000 in
theorem c_X11_stepQ {G : pv_G} {d : Nat} {s : Int32} {p q : Int64} {t : pv_T} {I : pv_I} {L : pv_L} {Rf : pv_R} (hd : 1 ≤ d) : pv_Mt G mX11_stepQ d 0 0 [.int s, .long p, .long q] t I L Rf (pv_is (some (.long (s_stepQ s p q))) t I L Rf) := by
  refine pv_mt mgX11_stepQ.2.2.2.2.2 [.int s, .long p, .retAddr 0, .long q, .retAddr 0] rfl (Nat.le_of_ble_eq_true rfl) ?_
  refine pv_iload_0 (pc := 0) dX11_stepQ_0 ?_
  refine pv_iconst (pc := 1) (v := 2) dX11_stepQ_1 (by decide) ?_
  refine pv_icmp_ne (pc := 2) (tgt := 12) dX11_stepQ_2 (by decide) (fun h2 => ?_) (fun h2 => ?_)
  · refine pv_lload_3 (pc := 12) dX11_stepQ_12 ?_
    refine pv_lret (pc := 13) dX11_stepQ_13 rfl ?_
    refine ⟨?_, rfl, rfl, rfl, rfl⟩
    first | (simp only [s_stepQ, s_abs, *, ↓reduceIte]; done) | (simp [s_stepQ, s_abs, *]; done) | (simp_all [s_stepQ, s_abs]; done)
  · refine pv_lload_1 (pc := 5) dX11_stepQ_5 ?_
    refine pv_labs (pc := 6) dX11_stepQ_6 mal_X11_268 ma_1 ma_0 ma_2 (by omega) (by decide) ?_
    refine pv_goto (pc := 9) (tgt := 13) dX11_stepQ_9 (by decide) ?_
    refine pv_lret (pc := 13) dX11_stepQ_13 rfl ?_
    refine ⟨?_, rfl, rfl, rfl, rfl⟩
    first | (simp only [s_stepQ, s_abs, *, ↓reduceIte]; done) | (simp [s_stepQ, s_abs, *]; done) | (simp_all [s_stepQ, s_abs]; done)

set_option maxRecDepth 100000 in
set_option maxHeartbeats 4000000 in
theorem c_X11_undoStep {G : pv_G} {d : Nat} {p : Int64} {t : pv_T} {I : pv_I} {L : pv_L} {Rf : pv_R} : pv_Mt G mX11_undoStep d 0 0 [.long p] t I L Rf (pv_is (some (.int (if p < 0 then 0 else 2))) t I L Rf) := by
  refine pv_mt mgX11_undoStep.2.2.2.2.2 [.long p, .retAddr 0] rfl (Nat.le_of_ble_eq_true rfl) ?_
  refine pv_lload_0 (pc := 0) dX11_undoStep_0 ?_
  refine pv_lconst (pc := 1) (v := 0) dX11_undoStep_1 (by decide) ?_
  refine pv_lcmp_ge (pc := 2) (tgt := 10) dX11_undoStep_2 dX11_undoStep_3 (by decide) (fun h2 => ?_) (fun h2 => ?_)
  · refine pv_iconst (pc := 10) (v := 2) dX11_undoStep_10 (by decide) ?_
    refine pv_iret (pc := 11) dX11_undoStep_11 rfl rfl ?_
    refine ⟨?_, rfl, rfl, rfl, rfl⟩
    first | (simp only [pv_b, *, ↓reduceIte]; done) | (simp [pv_b, *]; done) | (simp_all [pv_b]; done)
  · refine pv_iconst (pc := 6) (v := 0) dX11_undoStep_6 (by decide) ?_
    refine pv_goto (pc := 7) (tgt := 11) dX11_undoStep_7 (by decide) ?_
    refine pv_iret (pc := 11) dX11_undoStep_11 rfl rfl ?_
    refine ⟨?_, rfl, rfl, rfl, rfl⟩
    first | (simp only [pv_b, *, ↓reduceIte]; done) | (simp [pv_b, *]; done) | (simp_all [pv_b]; done)

set_option maxRecDepth 100000 in
set_option maxHeartbeats 4000000 in
theorem c_X11_firstOf {G : pv_G} {d : Nat} {a b : Int32} {t : pv_T} {I : pv_I} {L : pv_L} {Rf : pv_R} (hd : 1 ≤ d) : pv_Mt G mX11_firstOf d 0 0 [.int a, .int b] t I L Rf (pv_is (some (.int (if a = 0 ∨ b = 0 then a + b else if b < a then b else a))) t I L Rf) := by
  refine pv_mt mgX11_firstOf.2.2.2.2.2 [.int a, .int b] rfl (Nat.le_of_ble_eq_true rfl) ?_
  refine pv_iload_0 (pc := 0) dX11_firstOf_0 ?_
  refine pv_if_eq (pc := 1) (tgt := 8) dX11_firstOf_1 (by decide) (fun h1 => ?_) (fun h1 => ?_)
  · refine pv_iload_0 (pc := 8) dX11_firstOf_8 ?_
    refine pv_iload_1 (pc := 9) dX11_firstOf_9 ?_
    refine pv_iadd (pc := 10) dX11_firstOf_10 ?_
    refine pv_iret (pc := 11) dX11_firstOf_11 rfl rfl ?_
    refine ⟨?_, rfl, rfl, rfl, rfl⟩
    first | (simp only [pv_b, *, ↓reduceIte]; done) | (simp [pv_b, *]; done) | (simp_all [pv_b]; done)
  · refine pv_iload_1 (pc := 4) dX11_firstOf_4 ?_
    refine pv_if_ne (pc := 5) (tgt := 12) dX11_firstOf_5 (by decide) (fun h5 => ?_) (fun h5 => ?_)
    · refine pv_iload_0 (pc := 12) dX11_firstOf_12 ?_
      refine pv_iload_1 (pc := 13) dX11_firstOf_13 ?_
      refine pv_imin (pc := 14) dX11_firstOf_14 mil_X11_342 mi_1 ma_0 mi_2 (by omega) (by decide) ?_
      refine pv_iret (pc := 17) dX11_firstOf_17 rfl rfl ?_
      refine ⟨?_, rfl, rfl, rfl, rfl⟩
      first | (simp only [pv_b, *, ↓reduceIte]; done) | (simp [pv_b, *]; done) | (simp_all [pv_b]; done)
    · refine pv_iload_0 (pc := 8) dX11_firstOf_8 ?_
      refine pv_iload_1 (pc := 9) dX11_firstOf_9 ?_
      refine pv_iadd (pc := 10) dX11_firstOf_10 ?_
      refine pv_iret (pc := 11) dX11_firstOf_11 rfl rfl ?_
      refine ⟨?_, rfl, rfl, rfl, rfl⟩
      first | (simp only [pv_b, *, ↓reduceIte]; done) | (simp [pv_b, *]; done) | (simp_all [pv_b]; done)

set_option maxRecDepth 100000 in
set_option maxHeartbeats 4000000 in
theorem c_X11_straightOn {G : pv_G} {d : Nat} {a b : Int64} {n : Int32} {t : pv_T} {I : pv_I} {L : pv_L} {Rf : pv_R} : pv_Mt G mX11_straightOn d 0 0 [.long a, .long b, .int n] t I L Rf (pv_is (some (.long (a + n.toInt64 * (b - a)))) t I L Rf) := by
  refine pv_mt mgX11_straightOn.2.2.2.2.2 [.long a, .retAddr 0, .long b, .retAddr 0, .int n] rfl (Nat.le_of_ble_eq_true rfl) ?_
  refine pv_lload_0 (pc := 0) dX11_straightOn_0 ?_
  refine pv_iload_4 (pc := 1) dX11_straightOn_1 ?_
  refine pv_i2l (pc := 3) dX11_straightOn_3 ?_
  refine pv_lload_2 (pc := 4) dX11_straightOn_4 ?_
  refine pv_lload_0 (pc := 5) dX11_straightOn_5 ?_
  refine pv_lsub (pc := 6) dX11_straightOn_6 ?_
  refine pv_lmul (pc := 7) dX11_straightOn_7 ?_
  refine pv_ladd (pc := 8) dX11_straightOn_8 ?_
  refine pv_lret (pc := 9) dX11_straightOn_9 rfl ?_
  refine ⟨?_, rfl, rfl, rfl, rfl⟩
  first | (simp only [pv_b, *, ↓reduceIte]; done) | (simp [pv_b, *]; done) | (simp_all [pv_b]; done)

