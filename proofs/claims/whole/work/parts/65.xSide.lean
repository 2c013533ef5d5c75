/-! the class: joined, turned over; side over coloured -/
theorem x_np_to {a b c d : Int64} (h : j_ok a b) (g : j_ok c d) : (x_np a b c d).toInt = a.toInt * d.toInt + c.toInt * b.toInt ∧ -2000000000000000000 ≤ (x_np a b c d).toInt ∧ (x_np a b c d).toInt ≤ 2000000000000000000 ∧ (b * d).toInt = b.toInt * d.toInt ∧ 0 ≤ (b * d).toInt ∧ (b * d).toInt ≤ 1000000000000000000 := by
  obtain ⟨h1, h2, h3, h4⟩ := h
  obtain ⟨g1, g2, g3, g4⟩ := g
  have na1 : a.toInt * d.toInt ≤ 1000000000 * d.toInt := Int.mul_le_mul_of_nonneg_right h4 g1
  have na2 : -1000000000 * d.toInt ≤ a.toInt * d.toInt := Int.mul_le_mul_of_nonneg_right h3 g1
  have nc1 : c.toInt * b.toInt ≤ 1000000000 * b.toInt := Int.mul_le_mul_of_nonneg_right g4 h1
  have nc2 : -1000000000 * b.toInt ≤ c.toInt * b.toInt := Int.mul_le_mul_of_nonneg_right g3 h1
  have ea : (a * d).toInt = a.toInt * d.toInt := l64_mul (by omega) (by omega)
  have ec : (c * b).toInt = c.toInt * b.toInt := l64_mul (by omega) (by omega)
  have enp : (x_np a b c d).toInt = a.toInt * d.toInt + c.toInt * b.toInt := by unfold x_np; rw [l64_add (by rw [ea, ec]; omega) (by rw [ea, ec]; omega), ea, ec]
  have bd0 : 0 ≤ b.toInt * d.toInt := Int.mul_nonneg h1 g1
  have bd1 : b.toInt * d.toInt ≤ 1000000000 * 1000000000 := Int.mul_le_mul h2 g2 g1 (by omega)
  have eD : (b * d).toInt = b.toInt * d.toInt := l64_mul (by omega) (by omega)
  omega
theorem x_np_abs {a b c d : Int64} (h : j_ok a b) (g : j_ok c d) : 0 ≤ (if 0 < x_np a b c d then x_np a b c d else -(x_np a b c d)).toInt := by
  obtain ⟨e1, e2, e3, -⟩ := x_np_to h g
  split
  · rename_i r; rw [l64_lt, l64_0] at r; omega
  · rename_i r; rw [l64_lt, l64_0] at r; rw [l64_neg (by omega)]; omega
theorem x_cm_to {a b c d : Int64} (h : j_ok a b) (g : j_ok c d) : (x_cm a b c d).toInt = (Int.gcd (x_np a b c d).toInt (b * d).toInt : Nat) := by
  obtain ⟨e1, e2, e3, e4, e5, e6⟩ := x_np_to h g
  unfold x_cm
  split
  · rw [s_gcd_to (by omega) (by omega)]
  · have e : (-(x_np a b c d)).toInt = -(x_np a b c d).toInt := l64_neg (by omega)
    rw [s_gcd_to (by omega) (by omega), e, Int.neg_gcd]
/-- how far what the class makes can be from 0 -/
theorem x_jb {a b c d : Int64} (h : j_ok a b) (g : j_ok c d) : -2000000000000000000 ≤ (x_jP a b c d).toInt ∧ (x_jP a b c d).toInt ≤ 2000000000000000000 ∧ 0 ≤ (x_jQ a b c d).toInt ∧ (x_jQ a b c d).toInt ≤ 1000000000000000000 ∧ (x_jP a b c d = 0 → x_jQ a b c d = 1) := by
  obtain ⟨e1, e2, e3, e4, e5, e6⟩ := x_np_to h g
  have ec := x_cm_to h g
  unfold x_jP x_jQ
  by_cases hD : b * d = 0 ∨ x_cm a b c d = 0
  · rw [if_pos hD, if_pos hD, l64_0, l64_1]
    exact ⟨by omega, by omega, by omega, by omega, fun q => absurd q (by decide)⟩
  · rw [if_neg hD, if_neg hD]
    have hd0 : (b * d).toInt ≠ 0 := l64_n0.mp (fun r => hD (Or.inl r))
    have hc0 : (x_cm a b c d).toInt ≠ 0 := l64_n0.mp (fun r => hD (Or.inr r))
    have qP : (x_np a b c d / x_cm a b c d).toInt = (x_np a b c d).toInt.tdiv (x_cm a b c d).toInt := Jvm.Kit.i64_div (by omega)
    have qQ : (b * d / x_cm a b c d).toInt = (b * d).toInt / (x_cm a b c d).toInt := l64_div e5 (by omega)
    have l1 := Int.ediv_le_self (x_cm a b c d).toInt e5
    have l2 : 0 ≤ (b * d).toInt / (x_cm a b c d).toInt := Int.ediv_nonneg e5 (by omega)
    obtain ⟨k, hk⟩ : (x_cm a b c d).toInt ∣ (x_np a b c d).toInt := by rw [ec]; exact Int.gcd_dvd_left ..
    have qk : (x_np a b c d).toInt.tdiv (x_cm a b c d).toInt = k := by rw [hk]; exact Int.mul_tdiv_cancel_left _ hc0
    have kb : -2000000000000000000 ≤ k ∧ k ≤ 2000000000000000000 := by
      have c1 : 1 ≤ (x_cm a b c d).toInt := by omega
      rw [hk] at e2 e3
      by_cases k0 : 0 ≤ k
      · have z : 1 * k ≤ (x_cm a b c d).toInt * k := Int.mul_le_mul_of_nonneg_right c1 k0
        omega
      · have z : 1 * (-k) ≤ (x_cm a b c d).toInt * (-k) := Int.mul_le_mul_of_nonneg_right c1 (by omega)
        simp only [Int.mul_neg, Int.one_mul] at z
        omega
    rw [qP, qQ, qk]
    refine ⟨kb.1, kb.2, l2, by omega, fun q => ?_⟩
    have q1 : (x_np a b c d / x_cm a b c d).toInt = 0 := by rw [q, l64_0]
    rw [qP, qk] at q1
    rw [q1, Int.mul_zero] at hk
    rw [hk, Int.gcd_zero_left] at ec
    have e : (x_cm a b c d).toInt = (b * d).toInt := by omega
    rw [← Int64.toInt_inj, qQ, e, Int.ediv_self hd0, l64_1]
theorem x_flw {p q : Int64} (h1 : -2000000000000000000 ≤ p.toInt) (h2 : p.toInt ≤ 2000000000000000000) (h3 : 0 ≤ q.toInt) (h4 : q.toInt ≤ 1000000000000000000) (h5 : p = 0 → q = 1) : s_wide (w_fp p q) (w_fq p) 1000000000000 = s_wide p q 1000000000000 := by
  have n1 : (-(1000000000000 : Int64)).toInt = -1000000000000 := by decide
  unfold w_fp w_fq
  by_cases e : p = 0
  · rw [if_pos e, if_pos e, h5 e, e]; decide
  · rw [if_neg e, if_neg e]
    by_cases f : p < 0
    · have f1 := f
      rw [l64_lt, l64_0] at f1
      rw [if_pos f, if_pos f]
      unfold s_wide
      rw [Bool.eq_iff_iff]
      simp only [Bool.or_eq_true, decide_eq_true_eq, l64_lt, n1, l64_neg (show -9223372036854775808 < p.toInt by omega), l64_neg (show -9223372036854775808 < q.toInt by omega), show (1000000000000 : Int64).toInt = 1000000000000 by decide]
      omega
    · have f1 := f
      rw [l64_lt, l64_0] at f1
      rw [if_neg f, if_neg f]
      unfold s_wide
      rw [Bool.eq_iff_iff]
      simp only [Bool.or_eq_true, decide_eq_true_eq, l64_lt, n1, show (1000000000000 : Int64).toInt = 1000000000000 by decide]
      omega
theorem x_flg {a b : Int64} (h : s_isN a b) : (w_fq a).toInt = 0 ∨ Int.gcd (w_fp a b).toInt (w_fq a).toInt = 1 := by
  obtain ⟨h1, h2, h3, h4, h5⟩ := h
  unfold w_fp w_fq
  by_cases e : a = 0
  · rw [if_pos e, if_pos e]; exact Or.inl (by decide)
  · rw [if_neg e, if_neg e]
    refine Or.inr ?_
    by_cases hb : b.toInt = 0
    · rw [if_pos hb] at h5
      have ha : a = 1 := by rw [← Int64.toInt_inj, h5, l64_1]
      have hb2 : b = 0 := by rw [← Int64.toInt_inj, hb, l64_0]
      rw [ha, hb2]; decide
    · rw [if_neg hb] at h5
      by_cases f : a < 0
      · rw [if_pos f, if_pos f, l64_neg (by omega), l64_neg (by omega), Int.neg_gcd, Int.gcd_neg, Int.gcd_comm]; exact h5
      · rw [if_neg f, if_neg f, Int.gcd_comm]; exact h5
theorem x_isg {a b : Int64} (h : s_isN a b) : b.toInt = 0 ∨ Int.gcd a.toInt b.toInt = 1 := by
  obtain ⟨h1, h2, h3, h4, h5⟩ := h
  by_cases hb : b.toInt = 0
  · exact Or.inl hb
  · rw [if_neg hb] at h5; exact Or.inr h5
theorem x_wsm (p q : Int64) : s_wide p q 1000000000 = !(s_small p && s_small q) := by
  have n1 : (-(1000000000 : Int64)).toInt = -1000000000 := by decide
  unfold s_wide s_small
  rw [Bool.eq_iff_iff]
  simp only [Bool.or_eq_true, decide_eq_true_eq, Bool.not_eq_true', Bool.and_eq_false_iff, decide_eq_false_iff_not, l64_lt, l64_le, n1, (show (1000000000 : Int64).toInt = 1000000000 from by decide), (show ((-1000000000) : Int64).toInt = (-1000000000) from by decide)]
  omega
def w_nj (K : pv_L) (a b : Int64) (x : Int32) : Int32 := if x < 0 ∨ 1 < x then 5 else if s_num a b = true then (if w_joined K a b = true then 0 else 7) else 6
theorem x_01 {x : Int32} (h : ¬ (x < 0 ∨ 1 < x)) : x = 0 ∨ x = 1 := by
  rw [i_lt, i_lt, (show (0 : Int32).toInt = 0 from by decide), (show (1 : Int32).toInt = 1 from by decide)] at h
  have : x.toInt = 0 ∨ x.toInt = 1 := by omega
  rcases this with q | q
  · exact Or.inl (by rw [← Int32.toInt_inj, q]; decide)
  · exact Or.inr (by rw [← Int32.toInt_inj, q]; decide)
theorem x_n01 {x : Int32} (h : ¬ x = 0) (g : ¬ x = 1) : x < 0 ∨ 1 < x := by
  rw [← Int32.toInt_inj, (show (0 : Int32).toInt = 0 from by decide)] at h
  rw [← Int32.toInt_inj, (show (1 : Int32).toInt = 1 from by decide)] at g
  rw [i_lt, i_lt, (show (0 : Int32).toInt = 0 from by decide), (show (1 : Int32).toInt = 1 from by decide)]
  omega
theorem x_y01 {x : Int32} (h : x = 0 ∨ x = 1) : ¬ (x < 0 ∨ 1 < x) := by
  rcases h with rfl | rfl <;> decide

set_option maxRecDepth 100000 in
set_option maxHeartbeats 4000000 in
theorem c_X4_join {G : pv_G} {d : Nat} {h : Nat} {a b : Int64} {t : pv_T} {I : pv_I} {L : pv_L} {Rf : pv_R} (hh : hl_ok t Rf h) (hp : j_ok (L h 1) (L h 2)) (hq2 : j_ok a b) (hd : 1 ≤ d) : pv_Mt G mX4_join d 0 0 [.ref h, .long a, .long b] t I L Rf (pv_is none t I (pv_u (pv_u L h 1 (x_jP (L h 1) (L h 2) a b)) h 2 (x_jQ (L h 1) (L h 2) a b)) Rf) := by
  refine pv_mt mgX4_join.2.2.2.2.2 [.ref h, .long a, .retAddr 0, .long b, .retAddr 0, .retAddr 0, .retAddr 0, .retAddr 0, .retAddr 0, .retAddr 0, .retAddr 0] rfl (Nat.le_of_ble_eq_true rfl) ?_
  refine pv_aload_0 (pc := 0) dX4_join_0 ?_
  refine pv_getL (pc := 1) dX4_join_1 fg_X4_29_4 hh.1 hh.2.2.1 ?_
  refine pv_lload_3 (pc := 4) dX4_join_4 ?_
  refine pv_lmul (pc := 5) dX4_join_5 ?_
  refine pv_lload_1 (pc := 6) dX4_join_6 ?_
  refine pv_aload_0 (pc := 7) dX4_join_7 ?_
  refine pv_getL (pc := 8) dX4_join_8 fg_X4_15_4 hh.1 hh.2.2.1 ?_
  refine pv_lmul (pc := 11) dX4_join_11 ?_
  refine pv_ladd (pc := 12) dX4_join_12 ?_
  refine pv_lstore_5 (pc := 13) dX4_join_13 (by decide) rfl ?_
  refine pv_aload_0 (pc := 15) dX4_join_15 ?_
  refine pv_getL (pc := 16) dX4_join_16 fg_X4_15_4 hh.1 hh.2.2.1 ?_
  refine pv_lload_3 (pc := 19) dX4_join_19 ?_
  refine pv_lmul (pc := 20) dX4_join_20 ?_
  refine pv_lstore_7 (pc := 21) dX4_join_21 (by decide) rfl ?_
  refine pv_lload_5 (pc := 23) dX4_join_23 ?_
  refine pv_labs (pc := 25) dX4_join_25 mal_X4_73 ma_1 ma_0 ma_2 (by omega) (by decide) ?_
  refine pv_lload_7 (pc := 28) dX4_join_28 ?_
  refine pv_callSN1 (pc := 30) dX4_join_30 mgX11_divisor lsn_X4_79 (by omega) (c_X11_divisor (x_np_abs hp hq2) (x_np_to hp hq2).2.2.2.2.1) rfl rfl (by decide) ?_
  refine pv_lstore_9 (pc := 33) dX4_join_33 (by decide) rfl ?_
  refine pv_lload_7 (pc := 35) dX4_join_35 ?_
  refine pv_lconst (pc := 37) (v := 0) dX4_join_37 (by decide) ?_
  refine pv_lcmp_eq (pc := 38) (tgt := 49) dX4_join_38 dX4_join_39 (by decide) (fun h38 => ?_) (fun h38 => ?_)
  · refine pv_aload_0 (pc := 49) dX4_join_49 ?_
    refine pv_lconst (pc := 50) (v := 1) dX4_join_50 (by decide) ?_
    refine pv_lconst (pc := 51) (v := 0) dX4_join_51 (by decide) ?_
    refine pv_callV0 (pc := 52) dX4_join_52 mgX4_become lv_X4_41_4 hh.1 hh.2.2.1 (by omega) (c_X4_become hh.1 hh.2.2.1) rfl rfl (by decide) ?_
    refine pv_goto (pc := 55) (tgt := 72) dX4_join_55 (by decide) ?_
    refine pv_vret (pc := 72) dX4_join_72 rfl ?_
    first
      | (have g1 := h38; have g2 := h45
         have hD : ¬ (L h 2 * b = 0 ∨ x_cm (L h 1) (L h 2) a b = 0) := fun r => r.elim g1 g2
         refine ⟨rfl, rfl, rfl, ?_, rfl⟩
         have eP : x_jP (L h 1) (L h 2) a b = x_np (L h 1) (L h 2) a b / x_cm (L h 1) (L h 2) a b := by unfold x_jP; rw [if_neg hD]
         have eQ : x_jQ (L h 1) (L h 2) a b = L h 2 * b / x_cm (L h 1) (L h 2) a b := by unfold x_jQ; rw [if_neg hD]
         rw [eP, eQ]; rfl)
      | (have hD : L h 2 * b = 0 ∨ x_cm (L h 1) (L h 2) a b = 0 := (by first | exact Or.inl (show L h 2 * b = 0 from h38) | exact Or.inl (Classical.not_not.mp h38) | exact Or.inr (Classical.not_not.mp h45) | exact Or.inr (show x_cm (L h 1) (L h 2) a b = 0 from h45))
         refine ⟨rfl, rfl, rfl, ?_, rfl⟩
         have eP : x_jP (L h 1) (L h 2) a b = 1 := by unfold x_jP; rw [if_pos hD]
         have eQ : x_jQ (L h 1) (L h 2) a b = 0 := by unfold x_jQ; rw [if_pos hD]
         rw [eP, eQ])
  · refine pv_lload_9 (pc := 42) dX4_join_42 ?_
    refine pv_lconst (pc := 44) (v := 0) dX4_join_44 (by decide) ?_
    refine pv_lcmp_ne (pc := 45) (tgt := 58) dX4_join_45 dX4_join_46 (by decide) (fun h45 => ?_) (fun h45 => ?_)
    · refine pv_aload_0 (pc := 58) dX4_join_58 ?_
      refine pv_lload_5 (pc := 59) dX4_join_59 ?_
      refine pv_lload_9 (pc := 61) dX4_join_61 ?_
      refine pv_ldiv (pc := 63) dX4_join_63 h45 ?_
      refine pv_lload_7 (pc := 64) dX4_join_64 ?_
      refine pv_lload_9 (pc := 66) dX4_join_66 ?_
      refine pv_ldiv (pc := 68) dX4_join_68 h45 ?_
      refine pv_callV0 (pc := 69) dX4_join_69 mgX4_become lv_X4_41_4 hh.1 hh.2.2.1 (by omega) (c_X4_become hh.1 hh.2.2.1) rfl rfl (by decide) ?_
      refine pv_vret (pc := 72) dX4_join_72 rfl ?_
      first
        | (have g1 := h38; have g2 := h45
           have hD : ¬ (L h 2 * b = 0 ∨ x_cm (L h 1) (L h 2) a b = 0) := fun r => r.elim g1 g2
           refine ⟨rfl, rfl, rfl, ?_, rfl⟩
           have eP : x_jP (L h 1) (L h 2) a b = x_np (L h 1) (L h 2) a b / x_cm (L h 1) (L h 2) a b := by unfold x_jP; rw [if_neg hD]
           have eQ : x_jQ (L h 1) (L h 2) a b = L h 2 * b / x_cm (L h 1) (L h 2) a b := by unfold x_jQ; rw [if_neg hD]
           rw [eP, eQ]; rfl)
        | (have hD : L h 2 * b = 0 ∨ x_cm (L h 1) (L h 2) a b = 0 := (by first | exact Or.inl (show L h 2 * b = 0 from h38) | exact Or.inl (Classical.not_not.mp h38) | exact Or.inr (Classical.not_not.mp h45) | exact Or.inr (show x_cm (L h 1) (L h 2) a b = 0 from h45))
           refine ⟨rfl, rfl, rfl, ?_, rfl⟩
           have eP : x_jP (L h 1) (L h 2) a b = 1 := by unfold x_jP; rw [if_pos hD]
           have eQ : x_jQ (L h 1) (L h 2) a b = 0 := by unfold x_jQ; rw [if_pos hD]
           rw [eP, eQ])
    · refine pv_aload_0 (pc := 49) dX4_join_49 ?_
      refine pv_lconst (pc := 50) (v := 1) dX4_join_50 (by decide) ?_
      refine pv_lconst (pc := 51) (v := 0) dX4_join_51 (by decide) ?_
      refine pv_callV0 (pc := 52) dX4_join_52 mgX4_become lv_X4_41_4 hh.1 hh.2.2.1 (by omega) (c_X4_become hh.1 hh.2.2.1) rfl rfl (by decide) ?_
      refine pv_goto (pc := 55) (tgt := 72) dX4_join_55 (by decide) ?_
      refine pv_vret (pc := 72) dX4_join_72 rfl ?_
      first
        | (have g1 := h38; have g2 := h45
           have hD : ¬ (L h 2 * b = 0 ∨ x_cm (L h 1) (L h 2) a b = 0) := fun r => r.elim g1 g2
           refine ⟨rfl, rfl, rfl, ?_, rfl⟩
           have eP : x_jP (L h 1) (L h 2) a b = x_np (L h 1) (L h 2) a b / x_cm (L h 1) (L h 2) a b := by unfold x_jP; rw [if_neg hD]
           have eQ : x_jQ (L h 1) (L h 2) a b = L h 2 * b / x_cm (L h 1) (L h 2) a b := by unfold x_jQ; rw [if_neg hD]
           rw [eP, eQ]; rfl)
        | (have hD : L h 2 * b = 0 ∨ x_cm (L h 1) (L h 2) a b = 0 := (by first | exact Or.inl (show L h 2 * b = 0 from h38) | exact Or.inl (Classical.not_not.mp h38) | exact Or.inr (Classical.not_not.mp h45) | exact Or.inr (show x_cm (L h 1) (L h 2) a b = 0 from h45))
           refine ⟨rfl, rfl, rfl, ?_, rfl⟩
           have eP : x_jP (L h 1) (L h 2) a b = 1 := by unfold x_jP; rw [if_pos hD]
           have eQ : x_jQ (L h 1) (L h 2) a b = 0 := by unfold x_jQ; rw [if_pos hD]
           rw [eP, eQ])

set_option maxRecDepth 100000 in
set_option maxHeartbeats 4000000 in
theorem c_X4_turnOver {G : pv_G} {d : Nat} {h : Nat} {t : pv_T} {I : pv_I} {L : pv_L} {Rf : pv_R} (hh : hl_ok t Rf h) (h1 : -9000000000000000000 ≤ (L h 1).toInt) (hd : 1 ≤ d) : pv_Mt G mX4_turnOver d 0 0 [.ref h] t I L Rf (pv_is none t I (pv_u (pv_u L h 1 (w_fp (L h 1) (L h 2))) h 2 (w_fq (L h 1))) Rf) := by
  refine pv_mt mgX4_turnOver.2.2.2.2.2 [.ref h] rfl (Nat.le_of_ble_eq_true rfl) ?_
  refine pv_aload_0 (pc := 0) dX4_turnOver_0 ?_
  refine pv_getL (pc := 1) dX4_turnOver_1 fg_X4_29_4 hh.1 hh.2.2.1 ?_
  refine pv_lconst (pc := 4) (v := 0) dX4_turnOver_4 (by decide) ?_
  refine pv_lcmp_ne (pc := 5) (tgt := 18) dX4_turnOver_5 dX4_turnOver_6 (by decide) (fun h5 => ?_) (fun h5 => ?_)
  · refine pv_aload_0 (pc := 18) dX4_turnOver_18 ?_
    refine pv_aload_0 (pc := 19) dX4_turnOver_19 ?_
    refine pv_getL (pc := 20) dX4_turnOver_20 fg_X4_29_4 hh.1 hh.2.2.1 ?_
    refine pv_lconst (pc := 23) (v := 0) dX4_turnOver_23 (by decide) ?_
    refine pv_lcmp_ge (pc := 24) (tgt := 36) dX4_turnOver_24 dX4_turnOver_25 (by decide) (fun h24 => ?_) (fun h24 => ?_)
    · refine pv_aload_0 (pc := 36) dX4_turnOver_36 ?_
      refine pv_getL (pc := 37) dX4_turnOver_37 fg_X4_15_4 hh.1 hh.2.2.1 ?_
      refine pv_aload_0 (pc := 40) dX4_turnOver_40 ?_
      refine pv_getL (pc := 41) dX4_turnOver_41 fg_X4_29_4 hh.1 hh.2.2.1 ?_
      refine pv_labs (pc := 44) dX4_turnOver_44 mal_X4_73 ma_1 ma_0 ma_2 (by omega) (Nat.le_of_ble_eq_true rfl) ?_
      refine pv_callV0 (pc := 47) dX4_turnOver_47 mgX4_become lv_X4_41_4 hh.1 hh.2.2.1 (by omega) (c_X4_become hh.1 hh.2.2.1) rfl rfl (by decide) ?_
      refine pv_vret (pc := 50) dX4_turnOver_50 rfl ?_
      refine ⟨rfl, rfl, rfl, ?_, rfl⟩
      unfold w_fp w_fq
      first
        | (have g1 := h5; have g2 := h24
           have g1n : ¬ L h 1 = 0 := g1
           rw [if_neg g1n, if_neg g1n]
           first
             | (have g3 : ¬ L h 1 < 0 := g2
                have e0 : 0 < L h 1 := (by have z := l64_n0.mp g1n; rw [l64_lt, l64_0] at g3; rw [l64_lt, l64_0]; omega)
                rw [if_neg g3, if_neg g3, if_pos e0]; done)
             | (have g3 : L h 1 < 0 := (by first | exact g2 | exact Classical.not_not.mp g2)
                have e0 : ¬ 0 < L h 1 := (by rw [l64_lt, l64_0] at g3; rw [l64_lt, l64_0]; omega)
                rw [if_pos g3, if_pos g3, if_neg e0]; done))
        | (have g1 : L h 1 = 0 := (by first | exact h5 | exact Classical.not_not.mp h5)
           rw [if_pos g1, if_pos g1]; done)
    · refine pv_aload_0 (pc := 28) dX4_turnOver_28 ?_
      refine pv_getL (pc := 29) dX4_turnOver_29 fg_X4_15_4 hh.1 hh.2.2.1 ?_
      refine pv_lneg (pc := 32) dX4_turnOver_32 ?_
      refine pv_goto (pc := 33) (tgt := 40) dX4_turnOver_33 (by decide) ?_
      refine pv_aload_0 (pc := 40) dX4_turnOver_40 ?_
      refine pv_getL (pc := 41) dX4_turnOver_41 fg_X4_29_4 hh.1 hh.2.2.1 ?_
      refine pv_labs (pc := 44) dX4_turnOver_44 mal_X4_73 ma_1 ma_0 ma_2 (by omega) (Nat.le_of_ble_eq_true rfl) ?_
      refine pv_callV0 (pc := 47) dX4_turnOver_47 mgX4_become lv_X4_41_4 hh.1 hh.2.2.1 (by omega) (c_X4_become hh.1 hh.2.2.1) rfl rfl (by decide) ?_
      refine pv_vret (pc := 50) dX4_turnOver_50 rfl ?_
      refine ⟨rfl, rfl, rfl, ?_, rfl⟩
      unfold w_fp w_fq
      first
        | (have g1 := h5; have g2 := h24
           have g1n : ¬ L h 1 = 0 := g1
           rw [if_neg g1n, if_neg g1n]
           first
             | (have g3 : ¬ L h 1 < 0 := g2
                have e0 : 0 < L h 1 := (by have z := l64_n0.mp g1n; rw [l64_lt, l64_0] at g3; rw [l64_lt, l64_0]; omega)
                rw [if_neg g3, if_neg g3, if_pos e0]; done)
             | (have g3 : L h 1 < 0 := (by first | exact g2 | exact Classical.not_not.mp g2)
                have e0 : ¬ 0 < L h 1 := (by rw [l64_lt, l64_0] at g3; rw [l64_lt, l64_0]; omega)
                rw [if_pos g3, if_pos g3, if_neg e0]; done))
        | (have g1 : L h 1 = 0 := (by first | exact h5 | exact Classical.not_not.mp h5)
           rw [if_pos g1, if_pos g1]; done)
  · refine pv_aload_0 (pc := 9) dX4_turnOver_9 ?_
    refine pv_lconst (pc := 10) (v := 1) dX4_turnOver_10 (by decide) ?_
    refine pv_lconst (pc := 11) (v := 0) dX4_turnOver_11 (by decide) ?_
    refine pv_callV0 (pc := 12) dX4_turnOver_12 mgX4_become lv_X4_41_4 hh.1 hh.2.2.1 (by omega) (c_X4_become hh.1 hh.2.2.1) rfl rfl (by decide) ?_
    refine pv_goto (pc := 15) (tgt := 50) dX4_turnOver_15 (by decide) ?_
    refine pv_vret (pc := 50) dX4_turnOver_50 rfl ?_
    refine ⟨rfl, rfl, rfl, ?_, rfl⟩
    unfold w_fp w_fq
    first
      | (have g1 := h5; have g2 := h24
         have g1n : ¬ L h 1 = 0 := g1
         rw [if_neg g1n, if_neg g1n]
         first
           | (have g3 : ¬ L h 1 < 0 := g2
              have e0 : 0 < L h 1 := (by have z := l64_n0.mp g1n; rw [l64_lt, l64_0] at g3; rw [l64_lt, l64_0]; omega)
              rw [if_neg g3, if_neg g3, if_pos e0]; done)
           | (have g3 : L h 1 < 0 := (by first | exact g2 | exact Classical.not_not.mp g2)
              have e0 : ¬ 0 < L h 1 := (by rw [l64_lt, l64_0] at g3; rw [l64_lt, l64_0]; omega)
              rw [if_pos g3, if_pos g3, if_neg e0]; done))
      | (have g1 : L h 1 = 0 := (by first | exact h5 | exact Classical.not_not.mp h5)
         rw [if_pos g1, if_pos g1]; done)

set_option maxRecDepth 100000 in
set_option maxHeartbeats 4000000 in
theorem c_X11_notJoined {G : pv_G} {d : Nat} {J : pv_I} {K : pv_L} {a b : Int64} {x : Int32} {t : pv_T} {I : pv_I} {L : pv_L} {Rf : pv_R} (hW : WF J K) (hX : RX J K t I L Rf)  (hd : 3 ≤ d) : pv_Mt G mX11_notJoined d 0 0 [.ref 16, .long a, .long b, .int x] t I L Rf (pv_is (some (.int (w_nj K a b x))) t I L Rf) := by
  refine pv_mt mgX11_notJoined.2.2.2.2.2 [.ref 16, .long a, .retAddr 0, .long b, .retAddr 0, .int x] rfl (Nat.le_of_ble_eq_true rfl) ?_
  have hT := hX.1
  have hR := hX.2.1
  obtain ⟨-, -, ⟨xp, xq, xn, xst, xsp, xsd, xc⟩, xf, xs, xb, xi⟩ := id hX
  refine pv_iload_5 (pc := 0) dX11_notJoined_0 ?_
  refine pv_if_eq (pc := 2) (tgt := 13) dX11_notJoined_2 (by decide) (fun h2 => ?_) (fun h2 => ?_)
  · refine pv_lload_1 (pc := 13) dX11_notJoined_13 ?_
    refine pv_lload_3 (pc := 14) dX11_notJoined_14 ?_
    refine pv_callS1 (pc := 15) dX11_notJoined_15 mgX11_isNumber ls_X11_161 (by omega) (c_X11_isNumber hT (by omega)) rfl rfl (by decide) ?_
    refine pv_if_ne (pc := 18) (tgt := 24) dX11_notJoined_18 (by decide) (fun h18 => ?_) (fun h18 => ?_)
    · refine pv_lload_1 (pc := 24) dX11_notJoined_24 ?_
      refine pv_lload_3 (pc := 25) dX11_notJoined_25 ?_
      refine pv_ldc2 (pc := 26) dX11_notJoined_26 k_X11_371 ?_
      refine pv_callS1 (pc := 29) dX11_notJoined_29 mgX11_isWide ls_X11_350 (by omega) (c_X11_isWide ) rfl rfl (by decide) ?_
      refine pv_if_ne (pc := 32) (tgt := 58) dX11_notJoined_32 (by decide) (fun h32 => ?_) (fun h32 => ?_)
      · refine pv_bipush (pc := 58) (v := 7) dX11_notJoined_58 (by decide) ?_
        refine pv_goto (pc := 60) (tgt := 64) dX11_notJoined_60 (by decide) ?_
        refine pv_iret (pc := 64) dX11_notJoined_64 rfl rfl ?_
        refine ⟨congrArg (fun z => some (Value.int z)) ?_, rfl, rfl, rfl, rfl⟩
        have hN : s_num a b = true := (pv_b_n0 _).mp h18
        have h01 : x = 0 ∨ x = 1 := (by first | exact Or.inl h2 | exact Or.inl (Classical.not_not.mp h2) | exact Or.inr h8 | exact Or.inr (Classical.not_not.mp h8))
        unfold w_nj
        rw [if_neg (x_y01 h01), if_pos hN]
        have e1 := x_wsm a b
        have e2 := x_wsm (K 0 0) (K 0 1)
        unfold w_joined
        first
          | (have g1 := (pv_b_0 _).mp (by first | exact h32 | exact Classical.not_not.mp h32)
             have g2 := h55
             rw [g1] at e1
             have e3 : (s_small a && s_small b) = true := (by revert e1; cases (s_small a && s_small b) <;> decide)
             rw [xp, xq] at g2
             first
               | (have g3 := (pv_b_0 _).mp (by first | exact g2 | exact Classical.not_not.mp g2)
                  rw [g3] at e2
                  have e4 : (s_small (K 0 0) && s_small (K 0 1)) = true := (by revert e2; cases (s_small (K 0 0) && s_small (K 0 1)) <;> decide)
                  rw [e3, Bool.true_and, Bool.and_eq_true_iff.mp e4 |>.1, Bool.and_eq_true_iff.mp e4 |>.2]; rfl)
               | (have g3 := (pv_b_n0 _).mp g2
                  rw [g3] at e2
                  have e4 : (s_small (K 0 0) && s_small (K 0 1)) = false := (by revert e2; cases (s_small (K 0 0) && s_small (K 0 1)) <;> decide)
                  rw [e3, Bool.true_and, e4]; rfl))
          | (have g1 := (pv_b_n0 _).mp h32
             rw [g1] at e1
             have e3 : (s_small a && s_small b) = false := (by revert e1; cases (s_small a && s_small b) <;> decide)
             rw [e3]; rfl)
      · refine pv_aload_0 (pc := 35) dX11_notJoined_35 ?_
        refine pv_getR (pc := 36) dX11_notJoined_36 fg_X11_31_11 rfl (by decide) (sx_16 hT) (rx_16_4 hR) ?_
        refine pv_getL (pc := 39) dX11_notJoined_39 fg_X11_186_4 (by decide) (sx_21 hT) ?_
        refine pv_aload_0 (pc := 42) dX11_notJoined_42 ?_
        refine pv_getR (pc := 43) dX11_notJoined_43 fg_X11_31_11 rfl (by decide) (sx_16 hT) (rx_16_4 hR) ?_
        refine pv_getL (pc := 46) dX11_notJoined_46 fg_X11_190_4 (by decide) (sx_21 hT) ?_
        refine pv_ldc2 (pc := 49) dX11_notJoined_49 k_X11_371 ?_
        refine pv_callS1 (pc := 52) dX11_notJoined_52 mgX11_isWide ls_X11_350 (by omega) (c_X11_isWide ) rfl rfl (by decide) ?_
        refine pv_if_eq (pc := 55) (tgt := 63) dX11_notJoined_55 (by decide) (fun h55 => ?_) (fun h55 => ?_)
        · refine pv_iconst (pc := 63) (v := 0) dX11_notJoined_63 (by decide) ?_
          refine pv_iret (pc := 64) dX11_notJoined_64 rfl rfl ?_
          refine ⟨congrArg (fun z => some (Value.int z)) ?_, rfl, rfl, rfl, rfl⟩
          have hN : s_num a b = true := (pv_b_n0 _).mp h18
          have h01 : x = 0 ∨ x = 1 := (by first | exact Or.inl h2 | exact Or.inl (Classical.not_not.mp h2) | exact Or.inr h8 | exact Or.inr (Classical.not_not.mp h8))
          unfold w_nj
          rw [if_neg (x_y01 h01), if_pos hN]
          have e1 := x_wsm a b
          have e2 := x_wsm (K 0 0) (K 0 1)
          unfold w_joined
          first
            | (have g1 := (pv_b_0 _).mp (by first | exact h32 | exact Classical.not_not.mp h32)
               have g2 := h55
               rw [g1] at e1
               have e3 : (s_small a && s_small b) = true := (by revert e1; cases (s_small a && s_small b) <;> decide)
               rw [xp, xq] at g2
               first
                 | (have g3 := (pv_b_0 _).mp (by first | exact g2 | exact Classical.not_not.mp g2)
                    rw [g3] at e2
                    have e4 : (s_small (K 0 0) && s_small (K 0 1)) = true := (by revert e2; cases (s_small (K 0 0) && s_small (K 0 1)) <;> decide)
                    rw [e3, Bool.true_and, Bool.and_eq_true_iff.mp e4 |>.1, Bool.and_eq_true_iff.mp e4 |>.2]; rfl)
                 | (have g3 := (pv_b_n0 _).mp g2
                    rw [g3] at e2
                    have e4 : (s_small (K 0 0) && s_small (K 0 1)) = false := (by revert e2; cases (s_small (K 0 0) && s_small (K 0 1)) <;> decide)
                    rw [e3, Bool.true_and, e4]; rfl))
            | (have g1 := (pv_b_n0 _).mp h32
               rw [g1] at e1
               have e3 : (s_small a && s_small b) = false := (by revert e1; cases (s_small a && s_small b) <;> decide)
               rw [e3]; rfl)
        · refine pv_bipush (pc := 58) (v := 7) dX11_notJoined_58 (by decide) ?_
          refine pv_goto (pc := 60) (tgt := 64) dX11_notJoined_60 (by decide) ?_
          refine pv_iret (pc := 64) dX11_notJoined_64 rfl rfl ?_
          refine ⟨congrArg (fun z => some (Value.int z)) ?_, rfl, rfl, rfl, rfl⟩
          have hN : s_num a b = true := (pv_b_n0 _).mp h18
          have h01 : x = 0 ∨ x = 1 := (by first | exact Or.inl h2 | exact Or.inl (Classical.not_not.mp h2) | exact Or.inr h8 | exact Or.inr (Classical.not_not.mp h8))
          unfold w_nj
          rw [if_neg (x_y01 h01), if_pos hN]
          have e1 := x_wsm a b
          have e2 := x_wsm (K 0 0) (K 0 1)
          unfold w_joined
          first
            | (have g1 := (pv_b_0 _).mp (by first | exact h32 | exact Classical.not_not.mp h32)
               have g2 := h55
               rw [g1] at e1
               have e3 : (s_small a && s_small b) = true := (by revert e1; cases (s_small a && s_small b) <;> decide)
               rw [xp, xq] at g2
               first
                 | (have g3 := (pv_b_0 _).mp (by first | exact g2 | exact Classical.not_not.mp g2)
                    rw [g3] at e2
                    have e4 : (s_small (K 0 0) && s_small (K 0 1)) = true := (by revert e2; cases (s_small (K 0 0) && s_small (K 0 1)) <;> decide)
                    rw [e3, Bool.true_and, Bool.and_eq_true_iff.mp e4 |>.1, Bool.and_eq_true_iff.mp e4 |>.2]; rfl)
                 | (have g3 := (pv_b_n0 _).mp g2
                    rw [g3] at e2
                    have e4 : (s_small (K 0 0) && s_small (K 0 1)) = false := (by revert e2; cases (s_small (K 0 0) && s_small (K 0 1)) <;> decide)
                    rw [e3, Bool.true_and, e4]; rfl))
            | (have g1 := (pv_b_n0 _).mp h32
               rw [g1] at e1
               have e3 : (s_small a && s_small b) = false := (by revert e1; cases (s_small a && s_small b) <;> decide)
               rw [e3]; rfl)
    · refine pv_bipush (pc := 21) (v := 6) dX11_notJoined_21 (by decide) ?_
      refine pv_iret (pc := 23) dX11_notJoined_23 rfl rfl ?_
      refine ⟨congrArg (fun z => some (Value.int z)) ?_, rfl, rfl, rfl, rfl⟩
      have hN : s_num a b = false := (pv_b_0 _).mp (by first | exact h18 | exact Classical.not_not.mp h18)
      have h01 : x = 0 ∨ x = 1 := (by first | exact Or.inl h2 | exact Or.inl (Classical.not_not.mp h2) | exact Or.inr h8 | exact Or.inr (Classical.not_not.mp h8))
      unfold w_nj
      rw [if_neg (x_y01 h01), hN]; rfl
  · refine pv_iload_5 (pc := 5) dX11_notJoined_5 ?_
    refine pv_iconst (pc := 7) (v := 1) dX11_notJoined_7 (by decide) ?_
    refine pv_icmp_eq (pc := 8) (tgt := 13) dX11_notJoined_8 (by decide) (fun h8 => ?_) (fun h8 => ?_)
    · refine pv_lload_1 (pc := 13) dX11_notJoined_13 ?_
      refine pv_lload_3 (pc := 14) dX11_notJoined_14 ?_
      refine pv_callS1 (pc := 15) dX11_notJoined_15 mgX11_isNumber ls_X11_161 (by omega) (c_X11_isNumber hT (by omega)) rfl rfl (by decide) ?_
      refine pv_if_ne (pc := 18) (tgt := 24) dX11_notJoined_18 (by decide) (fun h18 => ?_) (fun h18 => ?_)
      · refine pv_lload_1 (pc := 24) dX11_notJoined_24 ?_
        refine pv_lload_3 (pc := 25) dX11_notJoined_25 ?_
        refine pv_ldc2 (pc := 26) dX11_notJoined_26 k_X11_371 ?_
        refine pv_callS1 (pc := 29) dX11_notJoined_29 mgX11_isWide ls_X11_350 (by omega) (c_X11_isWide ) rfl rfl (by decide) ?_
        refine pv_if_ne (pc := 32) (tgt := 58) dX11_notJoined_32 (by decide) (fun h32 => ?_) (fun h32 => ?_)
        · refine pv_bipush (pc := 58) (v := 7) dX11_notJoined_58 (by decide) ?_
          refine pv_goto (pc := 60) (tgt := 64) dX11_notJoined_60 (by decide) ?_
          refine pv_iret (pc := 64) dX11_notJoined_64 rfl rfl ?_
          refine ⟨congrArg (fun z => some (Value.int z)) ?_, rfl, rfl, rfl, rfl⟩
          have hN : s_num a b = true := (pv_b_n0 _).mp h18
          have h01 : x = 0 ∨ x = 1 := (by first | exact Or.inl h2 | exact Or.inl (Classical.not_not.mp h2) | exact Or.inr h8 | exact Or.inr (Classical.not_not.mp h8))
          unfold w_nj
          rw [if_neg (x_y01 h01), if_pos hN]
          have e1 := x_wsm a b
          have e2 := x_wsm (K 0 0) (K 0 1)
          unfold w_joined
          first
            | (have g1 := (pv_b_0 _).mp (by first | exact h32 | exact Classical.not_not.mp h32)
               have g2 := h55
               rw [g1] at e1
               have e3 : (s_small a && s_small b) = true := (by revert e1; cases (s_small a && s_small b) <;> decide)
               rw [xp, xq] at g2
               first
                 | (have g3 := (pv_b_0 _).mp (by first | exact g2 | exact Classical.not_not.mp g2)
                    rw [g3] at e2
                    have e4 : (s_small (K 0 0) && s_small (K 0 1)) = true := (by revert e2; cases (s_small (K 0 0) && s_small (K 0 1)) <;> decide)
                    rw [e3, Bool.true_and, Bool.and_eq_true_iff.mp e4 |>.1, Bool.and_eq_true_iff.mp e4 |>.2]; rfl)
                 | (have g3 := (pv_b_n0 _).mp g2
                    rw [g3] at e2
                    have e4 : (s_small (K 0 0) && s_small (K 0 1)) = false := (by revert e2; cases (s_small (K 0 0) && s_small (K 0 1)) <;> decide)
                    rw [e3, Bool.true_and, e4]; rfl))
            | (have g1 := (pv_b_n0 _).mp h32
               rw [g1] at e1
               have e3 : (s_small a && s_small b) = false := (by revert e1; cases (s_small a && s_small b) <;> decide)
               rw [e3]; rfl)
        · refine pv_aload_0 (pc := 35) dX11_notJoined_35 ?_
          refine pv_getR (pc := 36) dX11_notJoined_36 fg_X11_31_11 rfl (by decide) (sx_16 hT) (rx_16_4 hR) ?_
          refine pv_getL (pc := 39) dX11_notJoined_39 fg_X11_186_4 (by decide) (sx_21 hT) ?_
          refine pv_aload_0 (pc := 42) dX11_notJoined_42 ?_
          refine pv_getR (pc := 43) dX11_notJoined_43 fg_X11_31_11 rfl (by decide) (sx_16 hT) (rx_16_4 hR) ?_
          refine pv_getL (pc := 46) dX11_notJoined_46 fg_X11_190_4 (by decide) (sx_21 hT) ?_
          refine pv_ldc2 (pc := 49) dX11_notJoined_49 k_X11_371 ?_
          refine pv_callS1 (pc := 52) dX11_notJoined_52 mgX11_isWide ls_X11_350 (by omega) (c_X11_isWide ) rfl rfl (by decide) ?_
          refine pv_if_eq (pc := 55) (tgt := 63) dX11_notJoined_55 (by decide) (fun h55 => ?_) (fun h55 => ?_)
          · refine pv_iconst (pc := 63) (v := 0) dX11_notJoined_63 (by decide) ?_
            refine pv_iret (pc := 64) dX11_notJoined_64 rfl rfl ?_
            refine ⟨congrArg (fun z => some (Value.int z)) ?_, rfl, rfl, rfl, rfl⟩
            have hN : s_num a b = true := (pv_b_n0 _).mp h18
            have h01 : x = 0 ∨ x = 1 := (by first | exact Or.inl h2 | exact Or.inl (Classical.not_not.mp h2) | exact Or.inr h8 | exact Or.inr (Classical.not_not.mp h8))
            unfold w_nj
            rw [if_neg (x_y01 h01), if_pos hN]
            have e1 := x_wsm a b
            have e2 := x_wsm (K 0 0) (K 0 1)
            unfold w_joined
            first
              | (have g1 := (pv_b_0 _).mp (by first | exact h32 | exact Classical.not_not.mp h32)
                 have g2 := h55
                 rw [g1] at e1
                 have e3 : (s_small a && s_small b) = true := (by revert e1; cases (s_small a && s_small b) <;> decide)
                 rw [xp, xq] at g2
                 first
                   | (have g3 := (pv_b_0 _).mp (by first | exact g2 | exact Classical.not_not.mp g2)
                      rw [g3] at e2
                      have e4 : (s_small (K 0 0) && s_small (K 0 1)) = true := (by revert e2; cases (s_small (K 0 0) && s_small (K 0 1)) <;> decide)
                      rw [e3, Bool.true_and, Bool.and_eq_true_iff.mp e4 |>.1, Bool.and_eq_true_iff.mp e4 |>.2]; rfl)
                   | (have g3 := (pv_b_n0 _).mp g2
                      rw [g3] at e2
                      have e4 : (s_small (K 0 0) && s_small (K 0 1)) = false := (by revert e2; cases (s_small (K 0 0) && s_small (K 0 1)) <;> decide)
                      rw [e3, Bool.true_and, e4]; rfl))
              | (have g1 := (pv_b_n0 _).mp h32
                 rw [g1] at e1
                 have e3 : (s_small a && s_small b) = false := (by revert e1; cases (s_small a && s_small b) <;> decide)
                 rw [e3]; rfl)
          · refine pv_bipush (pc := 58) (v := 7) dX11_notJoined_58 (by decide) ?_
            refine pv_goto (pc := 60) (tgt := 64) dX11_notJoined_60 (by decide) ?_
            refine pv_iret (pc := 64) dX11_notJoined_64 rfl rfl ?_
            refine ⟨congrArg (fun z => some (Value.int z)) ?_, rfl, rfl, rfl, rfl⟩
            have hN : s_num a b = true := (pv_b_n0 _).mp h18
            have h01 : x = 0 ∨ x = 1 := (by first | exact Or.inl h2 | exact Or.inl (Classical.not_not.mp h2) | exact Or.inr h8 | exact Or.inr (Classical.not_not.mp h8))
            unfold w_nj
            rw [if_neg (x_y01 h01), if_pos hN]
            have e1 := x_wsm a b
            have e2 := x_wsm (K 0 0) (K 0 1)
            unfold w_joined
            first
              | (have g1 := (pv_b_0 _).mp (by first | exact h32 | exact Classical.not_not.mp h32)
                 have g2 := h55
                 rw [g1] at e1
                 have e3 : (s_small a && s_small b) = true := (by revert e1; cases (s_small a && s_small b) <;> decide)
                 rw [xp, xq] at g2
                 first
                   | (have g3 := (pv_b_0 _).mp (by first | exact g2 | exact Classical.not_not.mp g2)
                      rw [g3] at e2
                      have e4 : (s_small (K 0 0) && s_small (K 0 1)) = true := (by revert e2; cases (s_small (K 0 0) && s_small (K 0 1)) <;> decide)
                      rw [e3, Bool.true_and, Bool.and_eq_true_iff.mp e4 |>.1, Bool.and_eq_true_iff.mp e4 |>.2]; rfl)
                   | (have g3 := (pv_b_n0 _).mp g2
                      rw [g3] at e2
                      have e4 : (s_small (K 0 0) && s_small (K 0 1)) = false := (by revert e2; cases (s_small (K 0 0) && s_small (K 0 1)) <;> decide)
                      rw [e3, Bool.true_and, e4]; rfl))
              | (have g1 := (pv_b_n0 _).mp h32
                 rw [g1] at e1
                 have e3 : (s_small a && s_small b) = false := (by revert e1; cases (s_small a && s_small b) <;> decide)
                 rw [e3]; rfl)
      · refine pv_bipush (pc := 21) (v := 6) dX11_notJoined_21 (by decide) ?_
        refine pv_iret (pc := 23) dX11_notJoined_23 rfl rfl ?_
        refine ⟨congrArg (fun z => some (Value.int z)) ?_, rfl, rfl, rfl, rfl⟩
        have hN : s_num a b = false := (pv_b_0 _).mp (by first | exact h18 | exact Classical.not_not.mp h18)
        have h01 : x = 0 ∨ x = 1 := (by first | exact Or.inl h2 | exact Or.inl (Classical.not_not.mp h2) | exact Or.inr h8 | exact Or.inr (Classical.not_not.mp h8))
        unfold w_nj
        rw [if_neg (x_y01 h01), hN]; rfl
    · refine pv_iconst (pc := 11) (v := 5) dX11_notJoined_11 (by decide) ?_
      refine pv_iret (pc := 12) dX11_notJoined_12 rfl rfl ?_
      refine ⟨congrArg (fun z => some (Value.int z)) ?_, rfl, rfl, rfl, rfl⟩
      unfold w_nj
      rw [if_pos (x_n01 h2 h8)]

set_option maxRecDepth 100000 in
set_option maxHeartbeats 4000000 in
theorem c_X11_joined {G : pv_G} {d : Nat} {x : Int32} {t : pv_T} {I : pv_I} {L : pv_L} {Rf : pv_R} (hT : sh_ok t) (hR : rf_ok Rf) (hd : 3 ≤ d) : pv_Mt G mX11_joined d 0 0 [.ref 16, .int x] t I L Rf (fun v t1 I1 L1 R1 => t1 = t ∧ L1 = L ∧ R1 = Rf ∧ ((s_wide (L 25 1) (L 25 2) 1000000000000 = true ∧ v = some (.long (-2000000000000 + (-7 : Int32).toInt64)) ∧ I1 = x_ref I 7) ∨ (s_wide (L 25 1) (L 25 2) 1000000000000 = false ∧ v = some (.long (if x = 0 then L 25 1 else L 25 2)) ∧ I1 = I))) := by
  refine pv_mt mgX11_joined.2.2.2.2.2 [.ref 16, .int x] rfl (Nat.le_of_ble_eq_true rfl) ?_
  refine pv_aload_0 (pc := 0) dX11_joined_0 ?_
  refine pv_getR (pc := 1) dX11_joined_1 fg_X11_38_11 rfl (by decide) (sx_16 hT) (rx_16_6 hR) ?_
  refine pv_getL (pc := 4) dX11_joined_4 fg_X11_186_4 (by decide) (sx_25 hT) ?_
  refine pv_aload_0 (pc := 7) dX11_joined_7 ?_
  refine pv_getR (pc := 8) dX11_joined_8 fg_X11_38_11 rfl (by decide) (sx_16 hT) (rx_16_6 hR) ?_
  refine pv_getL (pc := 11) dX11_joined_11 fg_X11_190_4 (by decide) (sx_25 hT) ?_
  refine pv_ldc2 (pc := 14) dX11_joined_14 k_X11_348 ?_
  refine pv_callS1 (pc := 17) dX11_joined_17 mgX11_isWide ls_X11_350 (by omega) (c_X11_isWide ) rfl rfl (by decide) ?_
  refine pv_if_eq (pc := 20) (tgt := 30) dX11_joined_20 (by decide) (fun h20 => ?_) (fun h20 => ?_)
  · refine pv_iload_1 (pc := 30) dX11_joined_30 ?_
    refine pv_if_ne (pc := 31) (tgt := 44) dX11_joined_31 (by decide) (fun h31 => ?_) (fun h31 => ?_)
    · refine pv_aload_0 (pc := 44) dX11_joined_44 ?_
      refine pv_getR (pc := 45) dX11_joined_45 fg_X11_38_11 rfl (by decide) (sx_16 hT) (rx_16_6 hR) ?_
      refine pv_getL (pc := 48) dX11_joined_48 fg_X11_190_4 (by decide) (sx_25 hT) ?_
      refine pv_lret (pc := 51) dX11_joined_51 rfl ?_
      refine ⟨rfl, rfl, rfl, Or.inr ⟨(pv_b_0 _).mp (by first | exact h20 | exact Classical.not_not.mp h20), congrArg (fun z => some (Value.long z)) ?_, rfl⟩⟩
      first
        | (have f1 : x = 0 := (by first | exact h31 | exact Classical.not_not.mp h31); rw [if_pos f1]; done)
        | (have f1 : ¬ x = 0 := h31; rw [if_neg f1]; done)
    · refine pv_aload_0 (pc := 34) dX11_joined_34 ?_
      refine pv_getR (pc := 35) dX11_joined_35 fg_X11_38_11 rfl (by decide) (sx_16 hT) (rx_16_6 hR) ?_
      refine pv_getL (pc := 38) dX11_joined_38 fg_X11_186_4 (by decide) (sx_25 hT) ?_
      refine pv_goto (pc := 41) (tgt := 51) dX11_joined_41 (by decide) ?_
      refine pv_lret (pc := 51) dX11_joined_51 rfl ?_
      refine ⟨rfl, rfl, rfl, Or.inr ⟨(pv_b_0 _).mp (by first | exact h20 | exact Classical.not_not.mp h20), congrArg (fun z => some (Value.long z)) ?_, rfl⟩⟩
      first
        | (have f1 : x = 0 := (by first | exact h31 | exact Classical.not_not.mp h31); rw [if_pos f1]; done)
        | (have f1 : ¬ x = 0 := h31; rw [if_neg f1]; done)
  · refine pv_aload_0 (pc := 23) dX11_joined_23 ?_
    refine pv_bipush (pc := 24) (v := 7) dX11_joined_24 (by decide) ?_
    refine pv_callV1 (pc := 26) dX11_joined_26 mgX11_refuseFar lv_X11_183_11 (by decide) (sx_16 hT) (by omega) (c_X11_refuseFar (k := 7) hT hR (by decide) (by unfold vp_in; decide) (by omega)) rfl rfl (by decide) ?_
    refine pv_lret (pc := 29) dX11_joined_29 rfl ?_
    exact ⟨rfl, rfl, rfl, Or.inl ⟨(pv_b_n0 _).mp h20, rfl, rfl⟩⟩

theorem w_nj_0 {K : pv_L} {a b : Int64} {x : Int32} (h : w_nj K a b x = 0) : ¬ (x < 0 ∨ 1 < x) ∧ s_num a b = true ∧ w_joined K a b = true := by
  unfold w_nj at h
  by_cases g1 : x < 0 ∨ 1 < x
  · rw [if_pos g1] at h; exact absurd h (by decide)
  · rw [if_neg g1] at h
    by_cases g2 : s_num a b = true
    · rw [if_pos g2] at h
      by_cases g3 : w_joined K a b = true
      · exact ⟨g1, g2, g3⟩
      · rw [if_neg g3] at h; exact absurd h (by decide)
    · rw [if_neg g2] at h; exact absurd h (by decide)
theorem w_nj_v (K : pv_L) (a b : Int64) (x : Int32) : w_nj K a b x = 0 ∨ (w_nj K a b x = 5 ∧ (x < 0 ∨ 1 < x)) ∨ (w_nj K a b x = 6 ∧ ¬ (x < 0 ∨ 1 < x) ∧ ¬ s_num a b = true) ∨ (w_nj K a b x = 7 ∧ ¬ (x < 0 ∨ 1 < x) ∧ s_num a b = true ∧ ¬ w_joined K a b = true) := by
  unfold w_nj
  by_cases g1 : x < 0 ∨ 1 < x
  · rw [if_pos g1]; exact Or.inr (Or.inl ⟨rfl, g1⟩)
  · rw [if_neg g1]
    by_cases g2 : s_num a b = true
    · rw [if_pos g2]
      by_cases g3 : w_joined K a b = true
      · rw [if_pos g3]; exact Or.inl rfl
      · rw [if_neg g3]; exact Or.inr (Or.inr (Or.inr ⟨rfl, g1, g2, g3⟩))
    · rw [if_neg g2]; exact Or.inr (Or.inr (Or.inl ⟨rfl, g1, g2⟩))
set_option maxRecDepth 100000 in
set_option maxHeartbeats 4000000 in
theorem c_X11_side {G : pv_G} {d : Nat} {J : pv_I} {K : pv_L} {a b : Int64} {x : Int32} {t : pv_T} {I : pv_I} {L : pv_L} {Rf : pv_R} (hW : WF J K) (hX : RX J K t I L Rf)  (hd : 60 ≤ d) : pv_Mt G mX11_side d 0 0 [.ref 16, .long a, .long b, .int x] t I L Rf (qX (S_side J K a b x) I L) := by
  refine pv_mt mgX11_side.2.2.2.2.2 [.ref 16, .long a, .retAddr 0, .long b, .retAddr 0, .int x, .retAddr 0] rfl (Nat.le_of_ble_eq_true rfl) ?_
  have hT := hX.1
  have hR := hX.2.1
  obtain ⟨-, -, ⟨xp, xq, xn, xst, xsp, xsd, xc⟩, xf, xs, xb, xi⟩ := id hX
  refine pv_aload_0 (pc := 0) dX11_side_0 ?_
  refine pv_lload_1 (pc := 1) dX11_side_1 ?_
  refine pv_lload_3 (pc := 2) dX11_side_2 ?_
  refine pv_iload_5 (pc := 3) dX11_side_3 ?_
  refine pv_callV1 (pc := 5) dX11_side_5 mgX11_notJoined lv_X11_255_11 (by decide) (sx_16 hT) (by omega) (c_X11_notJoined hW hX (by omega)) rfl rfl (by decide) ?_
  refine pv_istore_6 (pc := 8) dX11_side_8 (by decide) rfl ?_
  refine pv_iload_6 (pc := 10) dX11_side_10 ?_
  refine pv_if_eq (pc := 12) (tgt := 22) dX11_side_12 (by decide) (fun h12 => ?_) (fun h12 => ?_)
  · have nj := w_nj_0 (by first | exact h12 | exact Classical.not_not.mp h12)
    obtain ⟨n1, hN, hJ⟩ := nj
    obtain ⟨i1, i2, i3, i4⟩ := w_joined_i hJ
    have hN2 := (s_num_iff _ _).mp hN
    have j2 : j_ok a b := j_of i1 i2 hN2.1
    have j1 : j_ok (K 0 0) (K 0 1) := j_of i3 i4 hW.2.2.1.1
    refine pv_aload_0 (pc := 22) dX11_side_22 ?_
    refine pv_getR (pc := 23) dX11_side_23 fg_X11_38_11 rfl (by decide) (sx_16 hT) (rx_16_6 hR) ?_
    refine pv_aload_0 (pc := 26) dX11_side_26 ?_
    refine pv_getR (pc := 27) dX11_side_27 fg_X11_31_11 rfl (by decide) (sx_16 hT) (rx_16_4 hR) ?_
    refine pv_getL (pc := 30) dX11_side_30 fg_X11_186_4 (by decide) (sx_21 hT) ?_
    refine pv_aload_0 (pc := 33) dX11_side_33 ?_
    refine pv_getR (pc := 34) dX11_side_34 fg_X11_31_11 rfl (by decide) (sx_16 hT) (rx_16_4 hR) ?_
    refine pv_getL (pc := 37) dX11_side_37 fg_X11_190_4 (by decide) (sx_21 hT) ?_
    rw [xp, xq]
    refine pv_callV0 (pc := 40) dX11_side_40 mgX4_become lv_X11_165_4 (by decide) (sx_25 hT) (by omega) (c_X4_become (by decide) (sx_25 hT)) rfl rfl (by decide) ?_
    refine pv_aload_0 (pc := 43) dX11_side_43 ?_
    refine pv_getR (pc := 44) dX11_side_44 fg_X11_38_11 rfl (by decide) (sx_16 hT) (rx_16_6 hR) ?_
    refine pv_lload_1 (pc := 47) dX11_side_47 ?_
    refine pv_lload_3 (pc := 48) dX11_side_48 ?_
    refine pv_callV0 (pc := 49) dX11_side_49 mgX4_join lv_X11_259_4 (by decide) (sx_25 hT) (by omega) (c_X4_join (hl_25 hT hR) j1 j2 (by omega)) rfl rfl (by decide) ?_
    refine pv_aload_0 (pc := 52) dX11_side_52 ?_
    refine pv_iload_5 (pc := 53) dX11_side_53 ?_
    refine pv_callVq (pc := 55) dX11_side_55 mgX11_joined lv_X11_262_11 (by decide) (sx_16 hT) (by omega) (c_X11_joined hT hR (by omega)) rfl rfl (by decide) (fun v t I L Rf hq => ?_)
    obtain ⟨rfl, rfl, rfl, ho⟩ := hq
    have xj := x_join j1 j2 (x_isg hW.2.2.1) (x_isg hN2)
    rcases ho with ⟨e1, rfl, rfl⟩ | ⟨e1, rfl, rfl⟩
    · have e1 : s_wide (x_jP (K 0 0) (K 0 1) a b) (x_jQ (K 0 0) (K 0 1) a b) 1000000000000 = true := e1
      rw [e1] at xj
      refine pv_lret (pc := 58) dX11_side_58 rfl ?_
      refine qX.scrref hX ((((kC.rf.uL 25 1 _ (by decide)).uL 25 2 _ (by decide)).uL 25 1 _ (by decide)).uL 25 2 _ (by decide)) k_l7 ?_
      unfold S_side; rw [if_neg n1, if_pos hN, if_pos hJ, xj.1]; rfl
    · have e1 : s_wide (x_jP (K 0 0) (K 0 1) a b) (x_jQ (K 0 0) (K 0 1) a b) 1000000000000 = false := e1
      rw [e1] at xj
      have xj1 : w_sumB (K 0 0) (K 0 1) a b = true := xj.1
      refine pv_lret (pc := 58) dX11_side_58 rfl ?_
      refine qX.scr hX ((((kC.rf.uL 25 1 _ (by decide)).uL 25 2 _ (by decide)).uL 25 1 _ (by decide)).uL 25 2 _ (by decide)) ?_
      unfold S_side; rw [if_neg n1, if_pos hN, if_pos hJ, if_pos xj1, (xj.2 xj1).1, (xj.2 xj1).2]; rfl
  · rcases w_nj_v K a b x with e | ⟨e, g1⟩ | ⟨e, g1, g2⟩ | ⟨e, g1, g2, g3⟩
    · exact absurd e h12
    · rw [e]
      refine pv_aload_0 (pc := 15) dX11_side_15 ?_
      refine pv_iload_6 (pc := 16) dX11_side_16 ?_
      refine pv_callV1 (pc := 18) dX11_side_18 mgX11_refuseFar lv_X11_183_11 (by decide) (sx_16 hT) (by omega) (c_X11_refuseFar (k := 5) hT hR (by decide) (by unfold vp_in; decide) (by omega)) rfl rfl (by decide) ?_
      refine pv_lret (pc := 21) dX11_side_21 rfl ?_
      refine qX.ref hX k_lt5b ?_; unfold S_side; rw [if_pos g1]
    · rw [e]
      refine pv_aload_0 (pc := 15) dX11_side_15 ?_
      refine pv_iload_6 (pc := 16) dX11_side_16 ?_
      refine pv_callV1 (pc := 18) dX11_side_18 mgX11_refuseFar lv_X11_183_11 (by decide) (sx_16 hT) (by omega) (c_X11_refuseFar (k := 6) hT hR (by decide) (by unfold vp_in; decide) (by omega)) rfl rfl (by decide) ?_
      refine pv_lret (pc := 21) dX11_side_21 rfl ?_
      refine qX.ref hX k_l6 ?_; unfold S_side; rw [if_neg g1, if_neg g2]
    · rw [e]
      refine pv_aload_0 (pc := 15) dX11_side_15 ?_
      refine pv_iload_6 (pc := 16) dX11_side_16 ?_
      refine pv_callV1 (pc := 18) dX11_side_18 mgX11_refuseFar lv_X11_183_11 (by decide) (sx_16 hT) (by omega) (c_X11_refuseFar (k := 7) hT hR (by decide) (by unfold vp_in; decide) (by omega)) rfl rfl (by decide) ?_
      refine pv_lret (pc := 21) dX11_side_21 rfl ?_
      refine qX.ref hX k_l7 ?_; unfold S_side; rw [if_neg g1, if_pos g2, if_neg g3]

set_option maxRecDepth 100000 in
set_option maxHeartbeats 4000000 in
theorem c_X11_over {G : pv_G} {d : Nat} {J : pv_I} {K : pv_L} {a b : Int64} {x : Int32} {t : pv_T} {I : pv_I} {L : pv_L} {Rf : pv_R} (hW : WF J K) (hX : RX J K t I L Rf)  (hd : 60 ≤ d) : pv_Mt G mX11_over d 0 0 [.ref 16, .long a, .long b, .int x] t I L Rf (qX (S_over J K a b x) I L) := by
  refine pv_mt mgX11_over.2.2.2.2.2 [.ref 16, .long a, .retAddr 0, .long b, .retAddr 0, .int x, .retAddr 0] rfl (Nat.le_of_ble_eq_true rfl) ?_
  have hT := hX.1
  have hR := hX.2.1
  obtain ⟨-, -, ⟨xp, xq, xn, xst, xsp, xsd, xc⟩, xf, xs, xb, xi⟩ := id hX
  refine pv_aload_0 (pc := 0) dX11_over_0 ?_
  refine pv_lload_1 (pc := 1) dX11_over_1 ?_
  refine pv_lload_3 (pc := 2) dX11_over_2 ?_
  refine pv_iload_5 (pc := 3) dX11_over_3 ?_
  refine pv_callV1 (pc := 5) dX11_over_5 mgX11_notJoined lv_X11_255_11 (by decide) (sx_16 hT) (by omega) (c_X11_notJoined hW hX (by omega)) rfl rfl (by decide) ?_
  refine pv_istore_6 (pc := 8) dX11_over_8 (by decide) rfl ?_
  refine pv_iload_6 (pc := 10) dX11_over_10 ?_
  refine pv_if_eq (pc := 12) (tgt := 22) dX11_over_12 (by decide) (fun h12 => ?_) (fun h12 => ?_)
  · have nj := w_nj_0 (by first | exact h12 | exact Classical.not_not.mp h12)
    obtain ⟨n1, hN, hJ⟩ := nj
    obtain ⟨i1, i2, i3, i4⟩ := w_joined_i hJ
    have hN2 := (s_num_iff _ _).mp hN
    have j2 : j_ok a b := j_of i1 i2 hN2.1
    have j1 : j_ok (K 0 0) (K 0 1) := j_of i3 i4 hW.2.2.1.1
    have t1 : -9000000000000000000 ≤ (K 0 0).toInt := by have := j1.2.2.1; omega
    have t2 : -9000000000000000000 ≤ a.toInt := by have := j2.2.2.1; omega
    have f1 := j_fl j1
    have f2 := j_fl j2
    have xb1 := x_jb f1 f2
    have t3 : -9000000000000000000 ≤ (x_jP (w_fp (K 0 0) (K 0 1)) (w_fq (K 0 0)) (w_fp a b) (w_fq a)).toInt := by have := xb1.1; omega
    refine pv_aload_0 (pc := 22) dX11_over_22 ?_
    refine pv_getR (pc := 23) dX11_over_23 fg_X11_38_11 rfl (by decide) (sx_16 hT) (rx_16_6 hR) ?_
    refine pv_aload_0 (pc := 26) dX11_over_26 ?_
    refine pv_getR (pc := 27) dX11_over_27 fg_X11_31_11 rfl (by decide) (sx_16 hT) (rx_16_4 hR) ?_
    refine pv_getL (pc := 30) dX11_over_30 fg_X11_186_4 (by decide) (sx_21 hT) ?_
    refine pv_aload_0 (pc := 33) dX11_over_33 ?_
    refine pv_getR (pc := 34) dX11_over_34 fg_X11_31_11 rfl (by decide) (sx_16 hT) (rx_16_4 hR) ?_
    refine pv_getL (pc := 37) dX11_over_37 fg_X11_190_4 (by decide) (sx_21 hT) ?_
    rw [xp, xq]
    refine pv_callV0 (pc := 40) dX11_over_40 mgX4_become lv_X11_165_4 (by decide) (sx_25 hT) (by omega) (c_X4_become (by decide) (sx_25 hT)) rfl rfl (by decide) ?_
    refine pv_aload_0 (pc := 43) dX11_over_43 ?_
    refine pv_getR (pc := 44) dX11_over_44 fg_X11_38_11 rfl (by decide) (sx_16 hT) (rx_16_6 hR) ?_
    refine pv_callV0 (pc := 47) dX11_over_47 mgX4_turnOver lv_X11_265_4 (by decide) (sx_25 hT) (by omega) (c_X4_turnOver (hl_25 hT hR) t1 (by omega)) rfl rfl (by decide) ?_
    refine pv_aload_0 (pc := 50) dX11_over_50 ?_
    refine pv_getR (pc := 51) dX11_over_51 fg_X11_41_11 rfl (by decide) (sx_16 hT) (rx_16_7 hR) ?_
    refine pv_lload_1 (pc := 54) dX11_over_54 ?_
    refine pv_lload_3 (pc := 55) dX11_over_55 ?_
    refine pv_callV0 (pc := 56) dX11_over_56 mgX4_become lv_X11_165_4 (by decide) (sx_27 hT) (by omega) (c_X4_become (by decide) (sx_27 hT)) rfl rfl (by decide) ?_
    refine pv_aload_0 (pc := 59) dX11_over_59 ?_
    refine pv_getR (pc := 60) dX11_over_60 fg_X11_41_11 rfl (by decide) (sx_16 hT) (rx_16_7 hR) ?_
    refine pv_callV0 (pc := 63) dX11_over_63 mgX4_turnOver lv_X11_265_4 (by decide) (sx_27 hT) (by omega) (c_X4_turnOver (hl_27 hT hR) t2 (by omega)) rfl rfl (by decide) ?_
    refine pv_aload_0 (pc := 66) dX11_over_66 ?_
    refine pv_getR (pc := 67) dX11_over_67 fg_X11_38_11 rfl (by decide) (sx_16 hT) (rx_16_6 hR) ?_
    refine pv_aload_0 (pc := 70) dX11_over_70 ?_
    refine pv_getR (pc := 71) dX11_over_71 fg_X11_41_11 rfl (by decide) (sx_16 hT) (rx_16_7 hR) ?_
    refine pv_getL (pc := 74) dX11_over_74 fg_X11_186_4 (by decide) (sx_27 hT) ?_
    refine pv_aload_0 (pc := 77) dX11_over_77 ?_
    refine pv_getR (pc := 78) dX11_over_78 fg_X11_41_11 rfl (by decide) (sx_16 hT) (rx_16_7 hR) ?_
    refine pv_getL (pc := 81) dX11_over_81 fg_X11_190_4 (by decide) (sx_27 hT) ?_
    refine pv_callV0 (pc := 84) dX11_over_84 mgX4_join lv_X11_259_4 (by decide) (sx_25 hT) (by omega) (c_X4_join (hl_25 hT hR) f1 f2 (by omega)) rfl rfl (by decide) ?_
    refine pv_aload_0 (pc := 87) dX11_over_87 ?_
    refine pv_getR (pc := 88) dX11_over_88 fg_X11_38_11 rfl (by decide) (sx_16 hT) (rx_16_6 hR) ?_
    refine pv_callV0 (pc := 91) dX11_over_91 mgX4_turnOver lv_X11_265_4 (by decide) (sx_25 hT) (by omega) (c_X4_turnOver (hl_25 hT hR) t3 (by omega)) rfl rfl (by decide) ?_
    refine pv_aload_0 (pc := 94) dX11_over_94 ?_
    refine pv_iload_5 (pc := 95) dX11_over_95 ?_
    refine pv_callVq (pc := 97) dX11_over_97 mgX11_joined lv_X11_262_11 (by decide) (sx_16 hT) (by omega) (c_X11_joined hT hR (by omega)) rfl rfl (by decide) (fun v t I L Rf hq => ?_)
    obtain ⟨rfl, rfl, rfl, ho⟩ := hq
    have xj := x_join f1 f2 (x_flg hW.2.2.1) (x_flg hN2)
    have xw := x_flw xb1.1 xb1.2.1 xb1.2.2.1 xb1.2.2.2.1 xb1.2.2.2.2
    rcases ho with ⟨e1, rfl, rfl⟩ | ⟨e1, rfl, rfl⟩
    · have e1 : s_wide (w_fp (x_jP (w_fp (K 0 0) (K 0 1)) (w_fq (K 0 0)) (w_fp a b) (w_fq a)) (x_jQ (w_fp (K 0 0) (K 0 1)) (w_fq (K 0 0)) (w_fp a b) (w_fq a))) (w_fq (x_jP (w_fp (K 0 0) (K 0 1)) (w_fq (K 0 0)) (w_fp a b) (w_fq a))) 1000000000000 = true := e1
      rw [xw] at e1
      rw [e1] at xj
      have xj1 : w_oB K a b = false := xj.1
      refine pv_lret (pc := 100) dX11_over_100 rfl ?_
      refine qX.scrref hX ((((((((((((kC.rf.uL 25 1 _ (by decide)).uL 25 2 _ (by decide)).uL 25 1 _ (by decide)).uL 25 2 _ (by decide)).uL 27 1 _ (by decide)).uL 27 2 _ (by decide)).uL 27 1 _ (by decide)).uL 27 2 _ (by decide)).uL 25 1 _ (by decide)).uL 25 2 _ (by decide)).uL 25 1 _ (by decide)).uL 25 2 _ (by decide)) k_l7 ?_
      unfold S_over; rw [if_neg n1, if_pos hN, if_pos hJ, xj1]; rfl
    · have e1 : s_wide (w_fp (x_jP (w_fp (K 0 0) (K 0 1)) (w_fq (K 0 0)) (w_fp a b) (w_fq a)) (x_jQ (w_fp (K 0 0) (K 0 1)) (w_fq (K 0 0)) (w_fp a b) (w_fq a))) (w_fq (x_jP (w_fp (K 0 0) (K 0 1)) (w_fq (K 0 0)) (w_fp a b) (w_fq a))) 1000000000000 = false := e1
      rw [xw] at e1
      rw [e1] at xj
      have xj1 : w_oB K a b = true := xj.1
      have xj2 : w_oP K a b = (x_jP (w_fp (K 0 0) (K 0 1)) (w_fq (K 0 0)) (w_fp a b) (w_fq a)) := (xj.2 xj.1).1
      have xj3 : w_oQ K a b = (x_jQ (w_fp (K 0 0) (K 0 1)) (w_fq (K 0 0)) (w_fp a b) (w_fq a)) := (xj.2 xj.1).2
      refine pv_lret (pc := 100) dX11_over_100 rfl ?_
      refine qX.scr hX ((((((((((((kC.rf.uL 25 1 _ (by decide)).uL 25 2 _ (by decide)).uL 25 1 _ (by decide)).uL 25 2 _ (by decide)).uL 27 1 _ (by decide)).uL 27 2 _ (by decide)).uL 27 1 _ (by decide)).uL 27 2 _ (by decide)).uL 25 1 _ (by decide)).uL 25 2 _ (by decide)).uL 25 1 _ (by decide)).uL 25 2 _ (by decide)) ?_
      unfold S_over; rw [if_neg n1, if_pos hN, if_pos hJ, if_pos xj1, xj2, xj3]; rfl
  · rcases w_nj_v K a b x with e | ⟨e, g1⟩ | ⟨e, g1, g2⟩ | ⟨e, g1, g2, g3⟩
    · exact absurd e h12
    · rw [e]
      refine pv_aload_0 (pc := 15) dX11_over_15 ?_
      refine pv_iload_6 (pc := 16) dX11_over_16 ?_
      refine pv_callV1 (pc := 18) dX11_over_18 mgX11_refuseFar lv_X11_183_11 (by decide) (sx_16 hT) (by omega) (c_X11_refuseFar (k := 5) hT hR (by decide) (by unfold vp_in; decide) (by omega)) rfl rfl (by decide) ?_
      refine pv_lret (pc := 21) dX11_over_21 rfl ?_
      refine qX.ref hX k_lt5b ?_; unfold S_over; rw [if_pos g1]
    · rw [e]
      refine pv_aload_0 (pc := 15) dX11_over_15 ?_
      refine pv_iload_6 (pc := 16) dX11_over_16 ?_
      refine pv_callV1 (pc := 18) dX11_over_18 mgX11_refuseFar lv_X11_183_11 (by decide) (sx_16 hT) (by omega) (c_X11_refuseFar (k := 6) hT hR (by decide) (by unfold vp_in; decide) (by omega)) rfl rfl (by decide) ?_
      refine pv_lret (pc := 21) dX11_over_21 rfl ?_
      refine qX.ref hX k_l6 ?_; unfold S_over; rw [if_neg g1, if_neg g2]
    · rw [e]
      refine pv_aload_0 (pc := 15) dX11_over_15 ?_
      refine pv_iload_6 (pc := 16) dX11_over_16 ?_
      refine pv_callV1 (pc := 18) dX11_over_18 mgX11_refuseFar lv_X11_183_11 (by decide) (sx_16 hT) (by omega) (c_X11_refuseFar (k := 7) hT hR (by decide) (by unfold vp_in; decide) (by omega)) rfl rfl (by decide) ?_
      refine pv_lret (pc := 21) dX11_over_21 rfl ?_
      refine qX.ref hX k_l7 ?_; unfold S_over; rw [if_neg g1, if_pos g2, if_neg g3]

set_option maxRecDepth 100000 in
set_option maxHeartbeats 4000000 in
theorem c_X11_coloured {G : pv_G} {d : Nat} {J : pv_I} {K : pv_L} {n : Int32} {t : pv_T} {I : pv_I} {L : pv_L} {Rf : pv_R} (hW : WF J K) (hX : RX J K t I L Rf)  (hd : 60 ≤ d) : pv_Mt G mX11_coloured d 0 0 [.ref 16, .int n] t I L Rf (qX (S_coloured J K n) I L) := by
  refine pv_mt mgX11_coloured.2.2.2.2.2 [.ref 16, .int n] rfl (Nat.le_of_ble_eq_true rfl) ?_
  have hT := hX.1
  have hR := hX.2.1
  obtain ⟨-, -, ⟨xp, xq, xn, xst, xsp, xsd, xc⟩, xf, xs, xb, xi⟩ := id hX
  refine pv_iload_1 (pc := 0) dX11_coloured_0 ?_
  refine pv_iconst (pc := 1) (v := 2) dX11_coloured_1 (by decide) ?_
  refine pv_icmp_lt (pc := 2) (tgt := 11) dX11_coloured_2 (by decide) (fun h2 => ?_) (fun h2 => ?_)
  · refine pv_aload_0 (pc := 11) dX11_coloured_11 ?_
    refine pv_bipush (pc := 12) (v := 6) dX11_coloured_12 (by decide) ?_
    refine pv_callV1 (pc := 14) dX11_coloured_14 mgX11_refuse lv_X11_70_11 (by decide) (sx_16 hT) (by omega) (c_X11_refuse (k := 6) hT hR (by decide) (by unfold vp_in; decide)) rfl rfl (by decide) ?_
    refine pv_i2l (pc := 17) dX11_coloured_17 ?_
    refine pv_lret (pc := 18) dX11_coloured_18 rfl ?_
    first
      | (have f1 := h8; refine qX.ref hX k_l6 ?_; unfold S_coloured; rw [if_pos (Or.inr f1)]; done)
      | (have f1 := h2; refine qX.ref hX k_l6 ?_; unfold S_coloured; rw [if_pos (Or.inl f1)]; done)
  · refine pv_iload_1 (pc := 5) dX11_coloured_5 ?_
    refine pv_bipush (pc := 6) (v := 99) dX11_coloured_6 (by decide) ?_
    refine pv_icmp_le (pc := 8) (tgt := 19) dX11_coloured_8 (by decide) (fun h8 => ?_) (fun h8 => ?_)
    · refine pv_iload_1 (pc := 19) dX11_coloured_19 ?_
      refine pv_i2l (pc := 20) dX11_coloured_20 ?_
      refine pv_aload_0 (pc := 21) dX11_coloured_21 ?_
      refine pv_getR (pc := 22) dX11_coloured_22 fg_X11_31_11 rfl (by decide) (sx_16 hT) (rx_16_4 hR) ?_
      refine pv_getL (pc := 25) dX11_coloured_25 fg_X11_186_4 (by decide) (sx_21 hT) ?_
      refine pv_labs (pc := 28) dX11_coloured_28 mal_X11_268 ma_1 ma_0 ma_2 (by omega) (Nat.le_of_ble_eq_true rfl) ?_
      refine pv_iload_1 (pc := 31) dX11_coloured_31 ?_
      refine pv_i2l (pc := 32) dX11_coloured_32 ?_
      refine pv_callS1 (pc := 33) dX11_coloured_33 mgX11_divisor ls_X11_274 (by omega) (c_X11_divisor (x_abs0 (q := 0) (by rw [xp]; have hN := hW.2.2.1; simp only [l64_le, (show (1000000000000 : Int64).toInt = 1000000000000 from by decide), (show ((-1000000000000) : Int64).toInt = (-1000000000000) from by decide)]; unfold s_isN at hN; rw [l64_0]; omega)) (by have z := h2; rw [i_lt, (show (2 : Int32).toInt = 2 from by decide)] at z; rw [Int32.toInt_toInt64]; omega)) rfl rfl (Nat.le_of_ble_eq_true rfl) ?_
      refine pv_lmul (pc := 36) dX11_coloured_36 ?_
      refine pv_lret (pc := 37) dX11_coloured_37 rfl ?_
      refine qX.same hX ?_
      have hN := hW.2.2.1
      have hg := x_absg (p := K 0 0) (q := n.toInt64) (by simp only [l64_le, (show (1000000000000 : Int64).toInt = 1000000000000 from by decide), (show ((-1000000000000) : Int64).toInt = (-1000000000000) from by decide)]; unfold s_isN at hN; omega)
      unfold S_coloured; rw [if_neg (fun r => r.elim h2 h8), ← hg, ← xp]
    · refine pv_aload_0 (pc := 11) dX11_coloured_11 ?_
      refine pv_bipush (pc := 12) (v := 6) dX11_coloured_12 (by decide) ?_
      refine pv_callV1 (pc := 14) dX11_coloured_14 mgX11_refuse lv_X11_70_11 (by decide) (sx_16 hT) (by omega) (c_X11_refuse (k := 6) hT hR (by decide) (by unfold vp_in; decide)) rfl rfl (by decide) ?_
      refine pv_i2l (pc := 17) dX11_coloured_17 ?_
      refine pv_lret (pc := 18) dX11_coloured_18 rfl ?_
      first
        | (have f1 := h8; refine qX.ref hX k_l6 ?_; unfold S_coloured; rw [if_pos (Or.inr f1)]; done)
        | (have f1 := h2; refine qX.ref hX k_l6 ?_; unfold S_coloured; rw [if_pos (Or.inl f1)]; done)

