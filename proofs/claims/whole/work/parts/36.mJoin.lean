/-! side, over -/
theorem i_div_u {a b q r : Int} (hb : 0 < b) (h : r + b * q = a) (h0 : 0 ≤ r) (h1 : r < b) : a / b = q := (Int.ediv_emod_unique hb).mpr ⟨h, h0, h1⟩ |>.1
def s_floor (a b : Int64) : Int64 := if a % b < 0 then a / b - 1 else a / b
theorem s_floor_to {a b : Int64} (hb : 0 < b.toInt) (ha : -4611686018427387904 ≤ a.toInt) : (s_floor a b).toInt = a.toInt / b.toInt := by
  have h1 := Int64.toInt_lt a
  have e1 : (a / b).toInt = a.toInt.tdiv b.toInt := Jvm.Kit.i64_div (by omega)
  have e2 : (a % b).toInt = a.toInt.tmod b.toInt := Int64.toInt_mod a b
  have e3 : a.toInt.tmod b.toInt + b.toInt * a.toInt.tdiv b.toInt = a.toInt := Int.tmod_add_mul_tdiv _ _
  have e4 : a.toInt.tmod b.toInt < b.toInt := Int.tmod_lt_of_pos _ hb
  have e5 : -b.toInt < a.toInt.tmod b.toInt := by
    have := Int.tmod_lt_of_pos (-a.toInt) hb
    rw [Int.neg_tmod] at this
    omega
  unfold s_floor
  by_cases h : a % b < 0
  · rw [if_pos h]
    rw [l64_lt, e2, l64_0] at h
    have e6 : -9223372036854775808 < a.toInt.tdiv b.toInt := by
      by_cases q : -4611686018427387904 ≤ a.toInt.tdiv b.toInt
      · omega
      · exfalso
        have : b.toInt * a.toInt.tdiv b.toInt ≤ 1 * a.toInt.tdiv b.toInt := Int.mul_le_mul_of_nonpos_right (by omega) (by omega)
        omega
    have e7 : a.toInt.tdiv b.toInt < 9223372036854775808 := by rw [← e1]; exact Int64.toInt_lt _
    rw [l64_sub (by rw [e1, l64_1]; omega) (by rw [e1, l64_1]; omega), e1, l64_1]
    refine (i_div_u (r := a.toInt.tmod b.toInt + b.toInt) hb ?_ (by omega) (by omega)).symm
    rw [Int.mul_sub, Int.mul_one]; omega
  · rw [if_neg h]
    rw [l64_lt, e2, l64_0] at h
    rw [e1]
    exact (i_div_u hb e3 (by omega) e4).symm
def w_x (b d : Int64) : Int64 := b / s_gcd b d
def w_y (b d : Int64) : Int64 := d / s_gcd b d
def w_wh (a b c d : Int64) : Int64 := s_floor a b + s_floor c d
def w_up (a b c d : Int64) : Int64 := (a - s_floor a b * b) * w_y b d + (c - s_floor c d * d) * w_x b d
def w_lo (b d : Int64) : Int64 := w_x b d * w_y b d * s_gcd b d
def w_h (a b c d : Int64) : Int64 := s_gcd (w_up a b c d) (w_lo b d)
def w_u1 (a b c d : Int64) : Int64 := w_up a b c d / w_h a b c d
def w_l1 (a b c d : Int64) : Int64 := w_lo b d / w_h a b c d
def w_az (a b c d : Int64) : Int64 := if w_wh a b c d < 0 then -w_wh a b c d else w_wh a b c d
def w_sm (a b c d : Int64) : Int64 := w_wh a b c d * w_l1 a b c d + w_u1 a b c d
def w_sumB (a b c d : Int64) : Bool := if b = 0 ∨ d = 0 then true else if 1000000000000 / w_y b d < w_x b d then false else if 1000000000000 < w_l1 a b c d then false else if 2000000000000 / w_l1 a b c d + 2 < w_az a b c d then false else if 1000000000000 < w_sm a b c d then false else if w_sm a b c d < -1000000000000 then false else true
def w_sumP (a b c d : Int64) : Int64 := if b = 0 ∨ d = 0 then 1 else w_sm a b c d
def w_sumQ (a b c d : Int64) : Int64 := if b = 0 ∨ d = 0 then 0 else w_l1 a b c d
def j_ok (a b : Int64) : Prop := 0 ≤ b.toInt ∧ b.toInt ≤ 1000000000 ∧ -1000000000 ≤ a.toInt ∧ a.toInt ≤ 1000000000
theorem j_f {a b : Int64} (h : j_ok a b) (hb : ¬ b = 0) : 0 < b.toInt ∧ (s_floor a b).toInt = a.toInt / b.toInt ∧ (a - s_floor a b * b).toInt = a.toInt % b.toInt ∧ 0 ≤ a.toInt % b.toInt ∧ a.toInt % b.toInt < b.toInt ∧ -1000000000 ≤ a.toInt / b.toInt ∧ a.toInt / b.toInt ≤ 1000000000 := by
  obtain ⟨h1, h2, h3, h4⟩ := h
  have h5 := l64_n0.mp hb
  have hp : 0 < b.toInt := by omega
  have e1 := s_floor_to (a := a) hp (by omega)
  have q := i_divs (a := a.toInt) hp
  have q3 := Int.ediv_mul_add_emod a.toInt b.toInt
  have e2 : (s_floor a b * b).toInt = a.toInt / b.toInt * b.toInt := by rw [l64_mul (by rw [e1]; omega) (by rw [e1]; omega), e1]
  have r1 := Int.emod_nonneg a.toInt h5
  have r2 := Int.emod_lt_of_pos a.toInt hp
  have q5 : -1000000000 ≤ a.toInt / b.toInt := (Int.le_ediv_iff_mul_le hp).mpr (by omega)
  have q6 : a.toInt / b.toInt ≤ 1000000000 := by
    have : a.toInt / b.toInt < 1000000001 := (Int.ediv_lt_iff_lt_mul hp).mpr (by omega)
    omega
  refine ⟨hp, e1, ?_, r1, r2, q5, q6⟩
  rw [l64_sub (by rw [e2]; omega) (by rw [e2]; omega), e2]
  omega
/-- the whole numbers behind two numbers together -/
theorem j_s {a b c d : Int64} (h : j_ok a b) (g : j_ok c d) (hb : ¬ b = 0) (hd : ¬ d = 0) : ∃ X Y G : Int, 1 ≤ X ∧ 1 ≤ Y ∧ 1 ≤ G ∧ X * G = b.toInt ∧ Y * G = d.toInt ∧ G = (Int.gcd b.toInt d.toInt : Nat) ∧
    (s_gcd b d).toInt = G ∧ (w_x b d).toInt = X ∧ (w_y b d).toInt = Y ∧ (w_lo b d).toInt = X * Y * G ∧ (w_up a b c d).toInt = a.toInt % b.toInt * Y + c.toInt % d.toInt * X ∧
    0 ≤ (w_up a b c d).toInt ∧ (w_up a b c d).toInt ≤ 2 * (w_lo b d).toInt ∧ 1 ≤ (w_lo b d).toInt ∧ (w_lo b d).toInt ≤ 1000000000000000000 ∧
    1 ≤ (w_h a b c d).toInt ∧ (w_h a b c d).toInt = (Int.gcd (w_up a b c d).toInt (w_lo b d).toInt : Nat) ∧ (w_l1 a b c d).toInt = (w_lo b d).toInt / (w_h a b c d).toInt ∧ (w_u1 a b c d).toInt = (w_up a b c d).toInt / (w_h a b c d).toInt ∧ 1 ≤ (w_l1 a b c d).toInt ∧ (w_l1 a b c d).toInt * (w_h a b c d).toInt = (w_lo b d).toInt ∧ (w_u1 a b c d).toInt * (w_h a b c d).toInt = (w_up a b c d).toInt ∧ (w_wh a b c d).toInt = a.toInt / b.toInt + c.toInt / d.toInt := by
  obtain ⟨b0, f1, f2, f3, f4, f5, f6⟩ := j_f h hb
  obtain ⟨d0, g1, g2, g3, g4, g5, g6⟩ := j_f g hd
  obtain ⟨h1, h2, h3, h4⟩ := h
  obtain ⟨k1, k2, k3, k4⟩ := g
  have eg := s_gcd_to (a := b) (b := d) (by omega) (by omega)
  have dv1 : ((Int.gcd b.toInt d.toInt : Nat) : Int) ∣ b.toInt := Int.gcd_dvd_left ..
  have dv2 : ((Int.gcd b.toInt d.toInt : Nat) : Int) ∣ d.toInt := Int.gcd_dvd_right ..
  have gp : 0 < Int.gcd b.toInt d.toInt := Int.gcd_pos_of_ne_zero_left _ (by omega)
  generalize hG : ((Int.gcd b.toInt d.toInt : Nat) : Int) = G at *
  have G1 : 1 ≤ G := by omega
  have ex : (w_x b d).toInt = b.toInt / G := by unfold w_x; rw [l64_div (by omega) (by omega), eg]
  have ey : (w_y b d).toInt = d.toInt / G := by unfold w_y; rw [l64_div (by omega) (by omega), eg]
  have X2 : b.toInt / G * G = b.toInt := Int.ediv_mul_cancel dv1
  have Y2 : d.toInt / G * G = d.toInt := Int.ediv_mul_cancel dv2
  generalize b.toInt / G = X at *
  generalize d.toInt / G = Y at *
  have X1 : 1 ≤ X := by
    by_cases q : 1 ≤ X
    · exact q
    · have : X * G ≤ 0 := Int.mul_nonpos_of_nonpos_of_nonneg (by omega) (by omega)
      omega
  have Y1 : 1 ≤ Y := by
    by_cases q : 1 ≤ Y
    · exact q
    · have : Y * G ≤ 0 := Int.mul_nonpos_of_nonpos_of_nonneg (by omega) (by omega)
      omega
  have XB : X ≤ b.toInt := by have : X * 1 ≤ X * G := Int.mul_le_mul_of_nonneg_left G1 (by omega); omega
  have YB : Y ≤ d.toInt := by have : Y * 1 ≤ Y * G := Int.mul_le_mul_of_nonneg_left G1 (by omega); omega
  have p0 : 0 ≤ X * Y := Int.mul_nonneg (by omega) (by omega)
  have p1 : X * Y ≤ 1000000000 * 1000000000 := Int.mul_le_mul (by omega) (by omega) (by omega) (by omega)
  have e1 : (w_x b d * w_y b d).toInt = X * Y := by rw [l64_mul (by rw [ex, ey]; omega) (by rw [ex, ey]; omega), ex, ey]
  have p2 : X * Y * G = b.toInt * Y := by rw [Int.mul_right_comm, X2]
  have p3 : b.toInt * Y ≤ 1000000000 * 1000000000 := Int.mul_le_mul (by omega) (by omega) (by omega) (by omega)
  have p4 : 1 * 1 ≤ b.toInt * Y := Int.mul_le_mul (by omega) (by omega) (by omega) (by omega)
  have elo : (w_lo b d).toInt = X * Y * G := by unfold w_lo; rw [l64_mul (by rw [e1, eg, p2]; omega) (by rw [e1, eg, p2]; omega), e1, eg]
  have q1 : a.toInt % b.toInt * Y ≤ b.toInt * Y := Int.mul_le_mul_of_nonneg_right (by omega) (by omega)
  have q2 : 0 ≤ a.toInt % b.toInt * Y := Int.mul_nonneg (by omega) (by omega)
  have q3 : c.toInt % d.toInt * X ≤ d.toInt * X := Int.mul_le_mul_of_nonneg_right (by omega) (by omega)
  have q4 : 0 ≤ c.toInt % d.toInt * X := Int.mul_nonneg (by omega) (by omega)
  have q5 : d.toInt * X = b.toInt * Y := by rw [← X2, ← Y2, Int.mul_right_comm, Int.mul_right_comm X G Y, Int.mul_comm Y X]
  have m1 : ((a - s_floor a b * b) * w_y b d).toInt = a.toInt % b.toInt * Y := by rw [l64_mul (by rw [f2, ey]; omega) (by rw [f2, ey]; omega), f2, ey]
  have m2 : ((c - s_floor c d * d) * w_x b d).toInt = c.toInt % d.toInt * X := by rw [l64_mul (by rw [g2, ex]; omega) (by rw [g2, ex]; omega), g2, ex]
  have eup : (w_up a b c d).toInt = a.toInt % b.toInt * Y + c.toInt % d.toInt * X := by unfold w_up; rw [l64_add (by rw [m1, m2]; omega) (by rw [m1, m2]; omega), m1, m2]
  have eh : (w_h a b c d).toInt = (Int.gcd (w_up a b c d).toInt (w_lo b d).toInt : Nat) := by unfold w_h; exact s_gcd_to (by omega) (by omega)
  have hp : 0 < Int.gcd (w_up a b c d).toInt (w_lo b d).toInt := Int.gcd_pos_of_ne_zero_right _ (by omega)
  have dv3 : ((Int.gcd (w_up a b c d).toInt (w_lo b d).toInt : Nat) : Int) ∣ (w_lo b d).toInt := Int.gcd_dvd_right ..
  have dv4 : ((Int.gcd (w_up a b c d).toInt (w_lo b d).toInt : Nat) : Int) ∣ (w_up a b c d).toInt := Int.gcd_dvd_left ..
  have el : (w_l1 a b c d).toInt = (w_lo b d).toInt / (w_h a b c d).toInt := by unfold w_l1; rw [l64_div (by omega) (by omega)]
  have eu : (w_u1 a b c d).toInt = (w_up a b c d).toInt / (w_h a b c d).toInt := by unfold w_u1; rw [l64_div (by omega) (by omega)]
  have l1 : (w_l1 a b c d).toInt * (w_h a b c d).toInt = (w_lo b d).toInt := by rw [el, eh]; exact Int.ediv_mul_cancel dv3
  have l2 : (w_u1 a b c d).toInt * (w_h a b c d).toInt = (w_up a b c d).toInt := by rw [eu, eh]; exact Int.ediv_mul_cancel dv4
  refine ⟨X, Y, G, X1, Y1, G1, X2, Y2, rfl, eg, ex, ey, elo, eup, by omega, by omega, by omega, by omega, by omega, eh, el, eu, ?_, l1, l2, ?_⟩
  · by_cases q : 1 ≤ (w_l1 a b c d).toInt
    · exact q
    · have : (w_l1 a b c d).toInt * (w_h a b c d).toInt ≤ 0 := Int.mul_nonpos_of_nonpos_of_nonneg (by omega) (by omega)
      omega
  · unfold w_wh; rw [l64_add (by rw [f1, g1]; omega) (by rw [f1, g1]; omega), f1, g1]

set_option maxRecDepth 100000 in
set_option maxHeartbeats 4000000 in
theorem c_X12_floor {G : pv_G} {d : Nat} {a b : Int64} {t : pv_T} {I : pv_I} {L : pv_L} {Rf : pv_R} (hb : ¬ b = 0) : pv_Mt G mX12_floor d 0 0 [.ref 61, .long a, .long b] t I L Rf (pv_is (some (.long (s_floor a b))) t I L Rf) := by
  refine pv_mt mgX12_floor.2.2.2.2.2 [.ref 61, .long a, .retAddr 0, .long b, .retAddr 0, .retAddr 0, .retAddr 0] rfl (Nat.le_of_ble_eq_true rfl) ?_
  refine pv_lload_1 (pc := 0) dX12_floor_0 ?_
  refine pv_lload_3 (pc := 1) dX12_floor_1 ?_
  refine pv_ldiv (pc := 2) dX12_floor_2 hb ?_
  refine pv_lstore_5 (pc := 3) dX12_floor_3 (by decide) rfl ?_
  refine pv_lload_1 (pc := 5) dX12_floor_5 ?_
  refine pv_lload_3 (pc := 6) dX12_floor_6 ?_
  refine pv_lrem (pc := 7) dX12_floor_7 hb ?_
  refine pv_lconst (pc := 8) (v := 0) dX12_floor_8 (by decide) ?_
  refine pv_lcmp_ge (pc := 9) (tgt := 20) dX12_floor_9 dX12_floor_10 (by decide) (fun h9 => ?_) (fun h9 => ?_)
  · refine pv_lload_5 (pc := 20) dX12_floor_20 ?_
    refine pv_lret (pc := 22) dX12_floor_22 rfl ?_
    refine ⟨congrArg (fun z => some (Value.long z)) ?_, rfl, rfl, rfl, rfl⟩
    unfold s_floor
    first
      | (have f1 := h9; rw [if_pos f1]; done)
      | (have f1 := h9; rw [if_neg f1]; done)
  · refine pv_lload_5 (pc := 13) dX12_floor_13 ?_
    refine pv_lconst (pc := 15) (v := 1) dX12_floor_15 (by decide) ?_
    refine pv_lsub (pc := 16) dX12_floor_16 ?_
    refine pv_goto (pc := 17) (tgt := 22) dX12_floor_17 (by decide) ?_
    refine pv_lret (pc := 22) dX12_floor_22 rfl ?_
    refine ⟨congrArg (fun z => some (Value.long z)) ?_, rfl, rfl, rfl, rfl⟩
    unfold s_floor
    first
      | (have f1 := h9; rw [if_pos f1]; done)
      | (have f1 := h9; rw [if_neg f1]; done)

set_option maxRecDepth 100000 in
set_option maxHeartbeats 4000000 in
theorem c_X12_sums {G : pv_G} {dd : Nat} {a b c d : Int64} {t : pv_T} {I : pv_I} {L : pv_L} {Rf : pv_R} (hT : sh_ok t) (h : j_ok a b) (g : j_ok c d) (hdd : 1 ≤ dd) : pv_Mt G mX12_sums dd 0 0 [.ref 61, .long a, .long b, .long c, .long d] t I L Rf (fun v t1 I1 L1 R1 => v = some (.int (pv_b (w_sumB a b c d))) ∧ t1 = t ∧ R1 = Rf ∧ I1 = I ∧ kS I L I1 L1 ∧ (w_sumB a b c d = true → L1 61 47 = w_sumP a b c d ∧ L1 61 48 = w_sumQ a b c d)) := by
  refine pv_mt mgX12_sums.2.2.2.2.2 [.ref 61, .long a, .retAddr 0, .long b, .retAddr 0, .long c, .retAddr 0, .long d, .retAddr 0, .retAddr 0, .retAddr 0, .retAddr 0, .retAddr 0, .retAddr 0, .retAddr 0, .retAddr 0, .retAddr 0, .retAddr 0, .retAddr 0, .retAddr 0, .retAddr 0, .retAddr 0, .retAddr 0, .retAddr 0, .retAddr 0] rfl (Nat.le_of_ble_eq_true rfl) ?_
  refine pv_lload_3 (pc := 0) dX12_sums_0 ?_
  refine pv_lconst (pc := 1) (v := 0) dX12_sums_1 (by decide) ?_
  refine pv_lcmp_eq (pc := 2) (tgt := 13) dX12_sums_2 dX12_sums_3 (by decide) (fun h2 => ?_) (fun h2 => ?_)
  · refine pv_aload_0 (pc := 13) dX12_sums_13 ?_
    refine pv_lconst (pc := 14) (v := 1) dX12_sums_14 (by decide) ?_
    refine pv_putL (pc := 15) dX12_sums_15 fl_X12_320_12 (fun q => by cases q) (by decide) (sx_61 hT) ?_
    refine pv_aload_0 (pc := 18) dX12_sums_18 ?_
    refine pv_lconst (pc := 19) (v := 0) dX12_sums_19 (by decide) ?_
    refine pv_putL (pc := 20) dX12_sums_20 fl_X12_323_12 (fun q => by cases q) (by decide) (sx_61 hT) ?_
    refine pv_iconst (pc := 23) (v := 1) dX12_sums_23 (by decide) ?_
    refine pv_iret (pc := 24) dX12_sums_24 rfl rfl ?_
    have hbd : b = 0 ∨ d = 0 := (by first | exact Or.inl h2 | exact Or.inr (Classical.not_not.mp h9) | exact Or.inr h9)
    have e : w_sumB a b c d = true := by unfold w_sumB; rw [if_pos hbd]
    rw [e]
    exact ⟨rfl, rfl, rfl, rfl, (kS.rf.uL 61 47 _ (by decide)).uL 61 48 _ (by decide), fun _ => ⟨(by unfold w_sumP; rw [if_pos hbd]; rfl), (by unfold w_sumQ; rw [if_pos hbd]; rfl)⟩⟩
  · refine pv_lload_7 (pc := 6) dX12_sums_6 ?_
    refine pv_lconst (pc := 8) (v := 0) dX12_sums_8 (by decide) ?_
    refine pv_lcmp_ne (pc := 9) (tgt := 25) dX12_sums_9 dX12_sums_10 (by decide) (fun h9 => ?_) (fun h9 => ?_)
    · have hb : ¬ b = 0 := h2
      have hd0 : ¬ d = 0 := h9
      have hbd : ¬ (b = 0 ∨ d = 0) := fun r => r.elim hb hd0
      obtain ⟨X, Y, G, X1, Y1, G1, X2, Y2, eG, eg, ex, ey, elo, eup, up0, up2, lo1, lo2, h1, eh, el, eu, l1, l2, l3, ewh⟩ := j_s h g hb hd0
      refine pv_aload_0 (pc := 25) dX12_sums_25 ?_
      refine pv_lload_3 (pc := 26) dX12_sums_26 ?_
      refine pv_lload_7 (pc := 27) dX12_sums_27 ?_
      refine pv_callV1 (pc := 29) dX12_sums_29 mgX12_divides lv_X12_139_12 (by decide) (sx_61 hT) (by omega) (c_X12_divides (by have := h.1; omega) (by have := g.1; omega)) rfl rfl (by decide) ?_
      refine pv_lstore_9 (pc := 32) dX12_sums_32 (by decide) rfl ?_
      refine pv_lload_3 (pc := 34) dX12_sums_34 ?_
      refine pv_lload_9 (pc := 35) dX12_sums_35 ?_
      refine pv_ldiv (pc := 37) dX12_sums_37 (l64_n0.mpr (by rw [eg]; omega)) ?_
      refine pv_lstore_11 (pc := 38) dX12_sums_38 (by decide) rfl ?_
      refine pv_lload_7 (pc := 40) dX12_sums_40 ?_
      refine pv_lload_9 (pc := 42) dX12_sums_42 ?_
      refine pv_ldiv (pc := 44) dX12_sums_44 (l64_n0.mpr (by rw [eg]; omega)) ?_
      refine pv_lstore_13 (pc := 45) dX12_sums_45 (by decide) rfl ?_
      refine pv_lload_11 (pc := 47) dX12_sums_47 ?_
      refine pv_ldc2 (pc := 49) dX12_sums_49 k_X12_135 ?_
      refine pv_lload_13 (pc := 52) dX12_sums_52 ?_
      refine pv_ldiv (pc := 54) dX12_sums_54 (l64_n0.mpr (by rw [show (d / s_gcd b d).toInt = Y from ey]; omega)) ?_
      refine pv_lcmp_le (pc := 55) (tgt := 61) dX12_sums_55 dX12_sums_56 (by decide) (fun h55 => ?_) (fun h55 => ?_)
      · refine pv_aload_0 (pc := 61) dX12_sums_61 ?_
        refine pv_lload_1 (pc := 62) dX12_sums_62 ?_
        refine pv_lload_3 (pc := 63) dX12_sums_63 ?_
        refine pv_callV1 (pc := 64) dX12_sums_64 mgX12_floor lv_X12_326_12 (by decide) (sx_61 hT) (by omega) (c_X12_floor hb) rfl rfl (by decide) ?_
        refine pv_aload_0 (pc := 67) dX12_sums_67 ?_
        refine pv_lload_5 (pc := 68) dX12_sums_68 ?_
        refine pv_lload_7 (pc := 70) dX12_sums_70 ?_
        refine pv_callV1 (pc := 72) dX12_sums_72 mgX12_floor lv_X12_326_12 (by decide) (sx_61 hT) (by omega) (c_X12_floor hd0) rfl rfl (Nat.le_of_ble_eq_true rfl) ?_
        refine pv_ladd (pc := 75) dX12_sums_75 ?_
        refine pv_lstore_15 (pc := 76) dX12_sums_76 (by decide) rfl ?_
        refine pv_lload_1 (pc := 78) dX12_sums_78 ?_
        refine pv_aload_0 (pc := 79) dX12_sums_79 ?_
        refine pv_lload_1 (pc := 80) dX12_sums_80 ?_
        refine pv_lload_3 (pc := 81) dX12_sums_81 ?_
        refine pv_callV1 (pc := 82) dX12_sums_82 mgX12_floor lv_X12_326_12 (by decide) (sx_61 hT) (by omega) (c_X12_floor hb) rfl rfl (Nat.le_of_ble_eq_true rfl) ?_
        refine pv_lload_3 (pc := 85) dX12_sums_85 ?_
        refine pv_lmul (pc := 86) dX12_sums_86 ?_
        refine pv_lsub (pc := 87) dX12_sums_87 ?_
        refine pv_lload_13 (pc := 88) dX12_sums_88 ?_
        refine pv_lmul (pc := 90) dX12_sums_90 ?_
        refine pv_lload_5 (pc := 91) dX12_sums_91 ?_
        refine pv_aload_0 (pc := 93) dX12_sums_93 ?_
        refine pv_lload_5 (pc := 94) dX12_sums_94 ?_
        refine pv_lload_7 (pc := 96) dX12_sums_96 ?_
        refine pv_callV1 (pc := 98) dX12_sums_98 mgX12_floor lv_X12_326_12 (by decide) (sx_61 hT) (by omega) (c_X12_floor hd0) rfl rfl (Nat.le_of_ble_eq_true rfl) ?_
        refine pv_lload_7 (pc := 101) dX12_sums_101 ?_
        refine pv_lmul (pc := 103) dX12_sums_103 ?_
        refine pv_lsub (pc := 104) dX12_sums_104 ?_
        refine pv_lload_11 (pc := 105) dX12_sums_105 ?_
        refine pv_lmul (pc := 107) dX12_sums_107 ?_
        refine pv_ladd (pc := 108) dX12_sums_108 ?_
        refine pv_lstore_17 (pc := 109) dX12_sums_109 (by decide) rfl ?_
        refine pv_lload_11 (pc := 111) dX12_sums_111 ?_
        refine pv_lload_13 (pc := 113) dX12_sums_113 ?_
        refine pv_lmul (pc := 115) dX12_sums_115 ?_
        refine pv_lload_9 (pc := 116) dX12_sums_116 ?_
        refine pv_lmul (pc := 118) dX12_sums_118 ?_
        refine pv_lstore_19 (pc := 119) dX12_sums_119 (by decide) rfl ?_
        refine pv_aload_0 (pc := 121) dX12_sums_121 ?_
        refine pv_lload_17 (pc := 122) dX12_sums_122 ?_
        refine pv_lload_19 (pc := 124) dX12_sums_124 ?_
        refine pv_callV1 (pc := 126) dX12_sums_126 mgX12_divides lv_X12_139_12 (by decide) (sx_61 hT) (by omega) (c_X12_divides (a := w_up a b c d) (b := w_lo b d) (by omega) (by omega)) rfl rfl (by decide) ?_
        refine pv_lstore_21 (pc := 129) dX12_sums_129 (by decide) rfl ?_
        refine pv_lload_17 (pc := 131) dX12_sums_131 ?_
        refine pv_lload_21 (pc := 133) dX12_sums_133 ?_
        refine pv_ldiv (pc := 135) dX12_sums_135 (l64_n0.mpr (show (w_h a b c d).toInt ≠ 0 by omega)) ?_
        refine pv_lstore_17 (pc := 136) dX12_sums_136 (by decide) rfl ?_
        refine pv_lload_19 (pc := 138) dX12_sums_138 ?_
        refine pv_lload_21 (pc := 140) dX12_sums_140 ?_
        refine pv_ldiv (pc := 142) dX12_sums_142 (l64_n0.mpr (show (w_h a b c d).toInt ≠ 0 by omega)) ?_
        refine pv_lstore_19 (pc := 143) dX12_sums_143 (by decide) rfl ?_
        refine pv_lload_19 (pc := 145) dX12_sums_145 ?_
        refine pv_ldc2 (pc := 147) dX12_sums_147 k_X12_135 ?_
        refine pv_lcmp_le (pc := 150) (tgt := 156) dX12_sums_150 dX12_sums_151 (by decide) (fun h150 => ?_) (fun h150 => ?_)
        · refine pv_lload_15 (pc := 156) dX12_sums_156 ?_
          refine pv_lconst (pc := 158) (v := 0) dX12_sums_158 (by decide) ?_
          refine pv_lcmp_ge (pc := 159) (tgt := 169) dX12_sums_159 dX12_sums_160 (by decide) (fun h159 => ?_) (fun h159 => ?_)
          · refine pv_lload_15 (pc := 169) dX12_sums_169 ?_
            refine pv_lstore_23 (pc := 171) dX12_sums_171 (by decide) rfl ?_
            refine pv_lload_23 (pc := 173) dX12_sums_173 ?_
            refine pv_ldc2 (pc := 175) dX12_sums_175 k_X12_329 ?_
            refine pv_lload_19 (pc := 178) dX12_sums_178 ?_
            refine pv_ldiv (pc := 180) dX12_sums_180 (l64_n0.mpr (show (w_l1 a b c d).toInt ≠ 0 by omega)) ?_
            refine pv_ldc2 (pc := 181) dX12_sums_181 k_X12_270 ?_
            refine pv_ladd (pc := 184) dX12_sums_184 ?_
            refine pv_lcmp_le (pc := 185) (tgt := 191) dX12_sums_185 dX12_sums_186 (by decide) (fun h185 => ?_) (fun h185 => ?_)
            · refine pv_aload_0 (pc := 191) dX12_sums_191 ?_
              refine pv_lload_15 (pc := 192) dX12_sums_192 ?_
              refine pv_lload_19 (pc := 194) dX12_sums_194 ?_
              refine pv_lmul (pc := 196) dX12_sums_196 ?_
              refine pv_lload_17 (pc := 197) dX12_sums_197 ?_
              refine pv_ladd (pc := 199) dX12_sums_199 ?_
              refine pv_putL (pc := 200) dX12_sums_200 fl_X12_320_12 (fun q => by cases q) (by decide) (sx_61 hT) ?_
              refine pv_aload_0 (pc := 203) dX12_sums_203 ?_
              refine pv_lload_19 (pc := 204) dX12_sums_204 ?_
              refine pv_putL (pc := 206) dX12_sums_206 fl_X12_323_12 (fun q => by cases q) (by decide) (sx_61 hT) ?_
              refine pv_aload_0 (pc := 209) dX12_sums_209 ?_
              refine pv_getL (pc := 210) dX12_sums_210 fg_X12_320_12 (by decide) (sx_61 hT) ?_
              refine pv_ldc2 (pc := 213) dX12_sums_213 k_X12_135 ?_
              refine pv_lcmp_gt (pc := 216) (tgt := 235) dX12_sums_216 dX12_sums_217 (by decide) (fun h216 => ?_) (fun h216 => ?_)
              · refine pv_iconst (pc := 235) (v := 0) dX12_sums_235 (by decide) ?_
                refine pv_iret (pc := 236) dX12_sums_236 rfl rfl ?_
                have g55 : ¬ 1000000000000 / w_y b d < w_x b d := h55
                have g150 : ¬ 1000000000000 < w_l1 a b c d := h150
                first
                  | (first
                      | (have f1 : w_wh a b c d < 0 := h159; have esz : w_az a b c d = -w_wh a b c d := (by unfold w_az; rw [if_pos f1]); have g185 : ¬ 2000000000000 / w_l1 a b c d + 2 < w_az a b c d := (by rw [esz]; exact h185); have g216 : 1000000000000 < w_sm a b c d := h216; have e : w_sumB a b c d = false := (by unfold w_sumB; rw [if_neg hbd, if_neg g55, if_neg g150, if_neg g185, if_pos g216]); rw [e]; exact ⟨rfl, rfl, rfl, rfl, (kS.rf.uL 61 47 _ (by decide)).uL 61 48 _ (by decide), fun q => absurd q (by decide)⟩)
                      | (have f1 : ¬ w_wh a b c d < 0 := h159; have esz : w_az a b c d = w_wh a b c d := (by unfold w_az; rw [if_neg f1]); have g185 : ¬ 2000000000000 / w_l1 a b c d + 2 < w_az a b c d := (by rw [esz]; exact h185); have g216 : 1000000000000 < w_sm a b c d := h216; have e : w_sumB a b c d = false := (by unfold w_sumB; rw [if_neg hbd, if_neg g55, if_neg g150, if_neg g185, if_pos g216]); rw [e]; exact ⟨rfl, rfl, rfl, rfl, (kS.rf.uL 61 47 _ (by decide)).uL 61 48 _ (by decide), fun q => absurd q (by decide)⟩))
                  | (first
                      | (have f1 : w_wh a b c d < 0 := h159; have esz : w_az a b c d = -w_wh a b c d := (by unfold w_az; rw [if_pos f1]); have g185 : ¬ 2000000000000 / w_l1 a b c d + 2 < w_az a b c d := (by rw [esz]; exact h185); have g216 : ¬ 1000000000000 < w_sm a b c d := h216; have g227 : w_sm a b c d < -1000000000000 := h227; have e : w_sumB a b c d = false := (by unfold w_sumB; rw [if_neg hbd, if_neg g55, if_neg g150, if_neg g185, if_neg g216, if_pos g227]); rw [e]; exact ⟨rfl, rfl, rfl, rfl, (kS.rf.uL 61 47 _ (by decide)).uL 61 48 _ (by decide), fun q => absurd q (by decide)⟩)
                      | (have f1 : ¬ w_wh a b c d < 0 := h159; have esz : w_az a b c d = w_wh a b c d := (by unfold w_az; rw [if_neg f1]); have g185 : ¬ 2000000000000 / w_l1 a b c d + 2 < w_az a b c d := (by rw [esz]; exact h185); have g216 : ¬ 1000000000000 < w_sm a b c d := h216; have g227 : w_sm a b c d < -1000000000000 := h227; have e : w_sumB a b c d = false := (by unfold w_sumB; rw [if_neg hbd, if_neg g55, if_neg g150, if_neg g185, if_neg g216, if_pos g227]); rw [e]; exact ⟨rfl, rfl, rfl, rfl, (kS.rf.uL 61 47 _ (by decide)).uL 61 48 _ (by decide), fun q => absurd q (by decide)⟩))
                  | (first
                      | (have f1 : w_wh a b c d < 0 := h159; have esz : w_az a b c d = -w_wh a b c d := (by unfold w_az; rw [if_pos f1]); have g185 : ¬ 2000000000000 / w_l1 a b c d + 2 < w_az a b c d := (by rw [esz]; exact h185); have g216 : ¬ 1000000000000 < w_sm a b c d := h216; have g227 : ¬ w_sm a b c d < -1000000000000 := h227; have e : w_sumB a b c d = true := (by unfold w_sumB; rw [if_neg hbd, if_neg g55, if_neg g150, if_neg g185, if_neg g216, if_neg g227]); rw [e]; exact ⟨rfl, rfl, rfl, rfl, (kS.rf.uL 61 47 _ (by decide)).uL 61 48 _ (by decide), fun _ => ⟨(by unfold w_sumP; rw [if_neg hbd]; rfl), (by unfold w_sumQ; rw [if_neg hbd]; rfl)⟩⟩)
                      | (have f1 : ¬ w_wh a b c d < 0 := h159; have esz : w_az a b c d = w_wh a b c d := (by unfold w_az; rw [if_neg f1]); have g185 : ¬ 2000000000000 / w_l1 a b c d + 2 < w_az a b c d := (by rw [esz]; exact h185); have g216 : ¬ 1000000000000 < w_sm a b c d := h216; have g227 : ¬ w_sm a b c d < -1000000000000 := h227; have e : w_sumB a b c d = true := (by unfold w_sumB; rw [if_neg hbd, if_neg g55, if_neg g150, if_neg g185, if_neg g216, if_neg g227]); rw [e]; exact ⟨rfl, rfl, rfl, rfl, (kS.rf.uL 61 47 _ (by decide)).uL 61 48 _ (by decide), fun _ => ⟨(by unfold w_sumP; rw [if_neg hbd]; rfl), (by unfold w_sumQ; rw [if_neg hbd]; rfl)⟩⟩))
              · refine pv_aload_0 (pc := 220) dX12_sums_220 ?_
                refine pv_getL (pc := 221) dX12_sums_221 fg_X12_320_12 (by decide) (sx_61 hT) ?_
                refine pv_ldc2 (pc := 224) dX12_sums_224 k_X12_137 ?_
                refine pv_lcmp_lt (pc := 227) (tgt := 235) dX12_sums_227 dX12_sums_228 (by decide) (fun h227 => ?_) (fun h227 => ?_)
                · refine pv_iconst (pc := 235) (v := 0) dX12_sums_235 (by decide) ?_
                  refine pv_iret (pc := 236) dX12_sums_236 rfl rfl ?_
                  have g55 : ¬ 1000000000000 / w_y b d < w_x b d := h55
                  have g150 : ¬ 1000000000000 < w_l1 a b c d := h150
                  first
                    | (first
                        | (have f1 : w_wh a b c d < 0 := h159; have esz : w_az a b c d = -w_wh a b c d := (by unfold w_az; rw [if_pos f1]); have g185 : ¬ 2000000000000 / w_l1 a b c d + 2 < w_az a b c d := (by rw [esz]; exact h185); have g216 : 1000000000000 < w_sm a b c d := h216; have e : w_sumB a b c d = false := (by unfold w_sumB; rw [if_neg hbd, if_neg g55, if_neg g150, if_neg g185, if_pos g216]); rw [e]; exact ⟨rfl, rfl, rfl, rfl, (kS.rf.uL 61 47 _ (by decide)).uL 61 48 _ (by decide), fun q => absurd q (by decide)⟩)
                        | (have f1 : ¬ w_wh a b c d < 0 := h159; have esz : w_az a b c d = w_wh a b c d := (by unfold w_az; rw [if_neg f1]); have g185 : ¬ 2000000000000 / w_l1 a b c d + 2 < w_az a b c d := (by rw [esz]; exact h185); have g216 : 1000000000000 < w_sm a b c d := h216; have e : w_sumB a b c d = false := (by unfold w_sumB; rw [if_neg hbd, if_neg g55, if_neg g150, if_neg g185, if_pos g216]); rw [e]; exact ⟨rfl, rfl, rfl, rfl, (kS.rf.uL 61 47 _ (by decide)).uL 61 48 _ (by decide), fun q => absurd q (by decide)⟩))
                    | (first
                        | (have f1 : w_wh a b c d < 0 := h159; have esz : w_az a b c d = -w_wh a b c d := (by unfold w_az; rw [if_pos f1]); have g185 : ¬ 2000000000000 / w_l1 a b c d + 2 < w_az a b c d := (by rw [esz]; exact h185); have g216 : ¬ 1000000000000 < w_sm a b c d := h216; have g227 : w_sm a b c d < -1000000000000 := h227; have e : w_sumB a b c d = false := (by unfold w_sumB; rw [if_neg hbd, if_neg g55, if_neg g150, if_neg g185, if_neg g216, if_pos g227]); rw [e]; exact ⟨rfl, rfl, rfl, rfl, (kS.rf.uL 61 47 _ (by decide)).uL 61 48 _ (by decide), fun q => absurd q (by decide)⟩)
                        | (have f1 : ¬ w_wh a b c d < 0 := h159; have esz : w_az a b c d = w_wh a b c d := (by unfold w_az; rw [if_neg f1]); have g185 : ¬ 2000000000000 / w_l1 a b c d + 2 < w_az a b c d := (by rw [esz]; exact h185); have g216 : ¬ 1000000000000 < w_sm a b c d := h216; have g227 : w_sm a b c d < -1000000000000 := h227; have e : w_sumB a b c d = false := (by unfold w_sumB; rw [if_neg hbd, if_neg g55, if_neg g150, if_neg g185, if_neg g216, if_pos g227]); rw [e]; exact ⟨rfl, rfl, rfl, rfl, (kS.rf.uL 61 47 _ (by decide)).uL 61 48 _ (by decide), fun q => absurd q (by decide)⟩))
                    | (first
                        | (have f1 : w_wh a b c d < 0 := h159; have esz : w_az a b c d = -w_wh a b c d := (by unfold w_az; rw [if_pos f1]); have g185 : ¬ 2000000000000 / w_l1 a b c d + 2 < w_az a b c d := (by rw [esz]; exact h185); have g216 : ¬ 1000000000000 < w_sm a b c d := h216; have g227 : ¬ w_sm a b c d < -1000000000000 := h227; have e : w_sumB a b c d = true := (by unfold w_sumB; rw [if_neg hbd, if_neg g55, if_neg g150, if_neg g185, if_neg g216, if_neg g227]); rw [e]; exact ⟨rfl, rfl, rfl, rfl, (kS.rf.uL 61 47 _ (by decide)).uL 61 48 _ (by decide), fun _ => ⟨(by unfold w_sumP; rw [if_neg hbd]; rfl), (by unfold w_sumQ; rw [if_neg hbd]; rfl)⟩⟩)
                        | (have f1 : ¬ w_wh a b c d < 0 := h159; have esz : w_az a b c d = w_wh a b c d := (by unfold w_az; rw [if_neg f1]); have g185 : ¬ 2000000000000 / w_l1 a b c d + 2 < w_az a b c d := (by rw [esz]; exact h185); have g216 : ¬ 1000000000000 < w_sm a b c d := h216; have g227 : ¬ w_sm a b c d < -1000000000000 := h227; have e : w_sumB a b c d = true := (by unfold w_sumB; rw [if_neg hbd, if_neg g55, if_neg g150, if_neg g185, if_neg g216, if_neg g227]); rw [e]; exact ⟨rfl, rfl, rfl, rfl, (kS.rf.uL 61 47 _ (by decide)).uL 61 48 _ (by decide), fun _ => ⟨(by unfold w_sumP; rw [if_neg hbd]; rfl), (by unfold w_sumQ; rw [if_neg hbd]; rfl)⟩⟩))
                · refine pv_iconst (pc := 231) (v := 1) dX12_sums_231 (by decide) ?_
                  refine pv_goto (pc := 232) (tgt := 236) dX12_sums_232 (by decide) ?_
                  refine pv_iret (pc := 236) dX12_sums_236 rfl rfl ?_
                  have g55 : ¬ 1000000000000 / w_y b d < w_x b d := h55
                  have g150 : ¬ 1000000000000 < w_l1 a b c d := h150
                  first
                    | (first
                        | (have f1 : w_wh a b c d < 0 := h159; have esz : w_az a b c d = -w_wh a b c d := (by unfold w_az; rw [if_pos f1]); have g185 : ¬ 2000000000000 / w_l1 a b c d + 2 < w_az a b c d := (by rw [esz]; exact h185); have g216 : 1000000000000 < w_sm a b c d := h216; have e : w_sumB a b c d = false := (by unfold w_sumB; rw [if_neg hbd, if_neg g55, if_neg g150, if_neg g185, if_pos g216]); rw [e]; exact ⟨rfl, rfl, rfl, rfl, (kS.rf.uL 61 47 _ (by decide)).uL 61 48 _ (by decide), fun q => absurd q (by decide)⟩)
                        | (have f1 : ¬ w_wh a b c d < 0 := h159; have esz : w_az a b c d = w_wh a b c d := (by unfold w_az; rw [if_neg f1]); have g185 : ¬ 2000000000000 / w_l1 a b c d + 2 < w_az a b c d := (by rw [esz]; exact h185); have g216 : 1000000000000 < w_sm a b c d := h216; have e : w_sumB a b c d = false := (by unfold w_sumB; rw [if_neg hbd, if_neg g55, if_neg g150, if_neg g185, if_pos g216]); rw [e]; exact ⟨rfl, rfl, rfl, rfl, (kS.rf.uL 61 47 _ (by decide)).uL 61 48 _ (by decide), fun q => absurd q (by decide)⟩))
                    | (first
                        | (have f1 : w_wh a b c d < 0 := h159; have esz : w_az a b c d = -w_wh a b c d := (by unfold w_az; rw [if_pos f1]); have g185 : ¬ 2000000000000 / w_l1 a b c d + 2 < w_az a b c d := (by rw [esz]; exact h185); have g216 : ¬ 1000000000000 < w_sm a b c d := h216; have g227 : w_sm a b c d < -1000000000000 := h227; have e : w_sumB a b c d = false := (by unfold w_sumB; rw [if_neg hbd, if_neg g55, if_neg g150, if_neg g185, if_neg g216, if_pos g227]); rw [e]; exact ⟨rfl, rfl, rfl, rfl, (kS.rf.uL 61 47 _ (by decide)).uL 61 48 _ (by decide), fun q => absurd q (by decide)⟩)
                        | (have f1 : ¬ w_wh a b c d < 0 := h159; have esz : w_az a b c d = w_wh a b c d := (by unfold w_az; rw [if_neg f1]); have g185 : ¬ 2000000000000 / w_l1 a b c d + 2 < w_az a b c d := (by rw [esz]; exact h185); have g216 : ¬ 1000000000000 < w_sm a b c d := h216; have g227 : w_sm a b c d < -1000000000000 := h227; have e : w_sumB a b c d = false := (by unfold w_sumB; rw [if_neg hbd, if_neg g55, if_neg g150, if_neg g185, if_neg g216, if_pos g227]); rw [e]; exact ⟨rfl, rfl, rfl, rfl, (kS.rf.uL 61 47 _ (by decide)).uL 61 48 _ (by decide), fun q => absurd q (by decide)⟩))
                    | (first
                        | (have f1 : w_wh a b c d < 0 := h159; have esz : w_az a b c d = -w_wh a b c d := (by unfold w_az; rw [if_pos f1]); have g185 : ¬ 2000000000000 / w_l1 a b c d + 2 < w_az a b c d := (by rw [esz]; exact h185); have g216 : ¬ 1000000000000 < w_sm a b c d := h216; have g227 : ¬ w_sm a b c d < -1000000000000 := h227; have e : w_sumB a b c d = true := (by unfold w_sumB; rw [if_neg hbd, if_neg g55, if_neg g150, if_neg g185, if_neg g216, if_neg g227]); rw [e]; exact ⟨rfl, rfl, rfl, rfl, (kS.rf.uL 61 47 _ (by decide)).uL 61 48 _ (by decide), fun _ => ⟨(by unfold w_sumP; rw [if_neg hbd]; rfl), (by unfold w_sumQ; rw [if_neg hbd]; rfl)⟩⟩)
                        | (have f1 : ¬ w_wh a b c d < 0 := h159; have esz : w_az a b c d = w_wh a b c d := (by unfold w_az; rw [if_neg f1]); have g185 : ¬ 2000000000000 / w_l1 a b c d + 2 < w_az a b c d := (by rw [esz]; exact h185); have g216 : ¬ 1000000000000 < w_sm a b c d := h216; have g227 : ¬ w_sm a b c d < -1000000000000 := h227; have e : w_sumB a b c d = true := (by unfold w_sumB; rw [if_neg hbd, if_neg g55, if_neg g150, if_neg g185, if_neg g216, if_neg g227]); rw [e]; exact ⟨rfl, rfl, rfl, rfl, (kS.rf.uL 61 47 _ (by decide)).uL 61 48 _ (by decide), fun _ => ⟨(by unfold w_sumP; rw [if_neg hbd]; rfl), (by unfold w_sumQ; rw [if_neg hbd]; rfl)⟩⟩))
            · refine pv_iconst (pc := 189) (v := 0) dX12_sums_189 (by decide) ?_
              refine pv_iret (pc := 190) dX12_sums_190 rfl rfl ?_
              have g55 : ¬ 1000000000000 / w_y b d < w_x b d := h55
              have g150 : ¬ 1000000000000 < w_l1 a b c d := h150
              first
                | (have f1 : w_wh a b c d < 0 := h159; have esz : w_az a b c d = -w_wh a b c d := (by unfold w_az; rw [if_pos f1]); have g185 : 2000000000000 / w_l1 a b c d + 2 < w_az a b c d := (by rw [esz]; exact h185); have e : w_sumB a b c d = false := (by unfold w_sumB; rw [if_neg hbd, if_neg g55, if_neg g150, if_pos g185]); rw [e]; exact ⟨rfl, rfl, rfl, rfl, kS.rf, fun q => absurd q (by decide)⟩)
                | (have f1 : ¬ w_wh a b c d < 0 := h159; have esz : w_az a b c d = w_wh a b c d := (by unfold w_az; rw [if_neg f1]); have g185 : 2000000000000 / w_l1 a b c d + 2 < w_az a b c d := (by rw [esz]; exact h185); have e : w_sumB a b c d = false := (by unfold w_sumB; rw [if_neg hbd, if_neg g55, if_neg g150, if_pos g185]); rw [e]; exact ⟨rfl, rfl, rfl, rfl, kS.rf, fun q => absurd q (by decide)⟩)
          · refine pv_lload_15 (pc := 163) dX12_sums_163 ?_
            refine pv_lneg (pc := 165) dX12_sums_165 ?_
            refine pv_goto (pc := 166) (tgt := 171) dX12_sums_166 (by decide) ?_
            refine pv_lstore_23 (pc := 171) dX12_sums_171 (by decide) rfl ?_
            refine pv_lload_23 (pc := 173) dX12_sums_173 ?_
            refine pv_ldc2 (pc := 175) dX12_sums_175 k_X12_329 ?_
            refine pv_lload_19 (pc := 178) dX12_sums_178 ?_
            refine pv_ldiv (pc := 180) dX12_sums_180 (l64_n0.mpr (show (w_l1 a b c d).toInt ≠ 0 by omega)) ?_
            refine pv_ldc2 (pc := 181) dX12_sums_181 k_X12_270 ?_
            refine pv_ladd (pc := 184) dX12_sums_184 ?_
            refine pv_lcmp_le (pc := 185) (tgt := 191) dX12_sums_185 dX12_sums_186 (by decide) (fun h185 => ?_) (fun h185 => ?_)
            · refine pv_aload_0 (pc := 191) dX12_sums_191 ?_
              refine pv_lload_15 (pc := 192) dX12_sums_192 ?_
              refine pv_lload_19 (pc := 194) dX12_sums_194 ?_
              refine pv_lmul (pc := 196) dX12_sums_196 ?_
              refine pv_lload_17 (pc := 197) dX12_sums_197 ?_
              refine pv_ladd (pc := 199) dX12_sums_199 ?_
              refine pv_putL (pc := 200) dX12_sums_200 fl_X12_320_12 (fun q => by cases q) (by decide) (sx_61 hT) ?_
              refine pv_aload_0 (pc := 203) dX12_sums_203 ?_
              refine pv_lload_19 (pc := 204) dX12_sums_204 ?_
              refine pv_putL (pc := 206) dX12_sums_206 fl_X12_323_12 (fun q => by cases q) (by decide) (sx_61 hT) ?_
              refine pv_aload_0 (pc := 209) dX12_sums_209 ?_
              refine pv_getL (pc := 210) dX12_sums_210 fg_X12_320_12 (by decide) (sx_61 hT) ?_
              refine pv_ldc2 (pc := 213) dX12_sums_213 k_X12_135 ?_
              refine pv_lcmp_gt (pc := 216) (tgt := 235) dX12_sums_216 dX12_sums_217 (by decide) (fun h216 => ?_) (fun h216 => ?_)
              · refine pv_iconst (pc := 235) (v := 0) dX12_sums_235 (by decide) ?_
                refine pv_iret (pc := 236) dX12_sums_236 rfl rfl ?_
                have g55 : ¬ 1000000000000 / w_y b d < w_x b d := h55
                have g150 : ¬ 1000000000000 < w_l1 a b c d := h150
                first
                  | (first
                      | (have f1 : w_wh a b c d < 0 := h159; have esz : w_az a b c d = -w_wh a b c d := (by unfold w_az; rw [if_pos f1]); have g185 : ¬ 2000000000000 / w_l1 a b c d + 2 < w_az a b c d := (by rw [esz]; exact h185); have g216 : 1000000000000 < w_sm a b c d := h216; have e : w_sumB a b c d = false := (by unfold w_sumB; rw [if_neg hbd, if_neg g55, if_neg g150, if_neg g185, if_pos g216]); rw [e]; exact ⟨rfl, rfl, rfl, rfl, (kS.rf.uL 61 47 _ (by decide)).uL 61 48 _ (by decide), fun q => absurd q (by decide)⟩)
                      | (have f1 : ¬ w_wh a b c d < 0 := h159; have esz : w_az a b c d = w_wh a b c d := (by unfold w_az; rw [if_neg f1]); have g185 : ¬ 2000000000000 / w_l1 a b c d + 2 < w_az a b c d := (by rw [esz]; exact h185); have g216 : 1000000000000 < w_sm a b c d := h216; have e : w_sumB a b c d = false := (by unfold w_sumB; rw [if_neg hbd, if_neg g55, if_neg g150, if_neg g185, if_pos g216]); rw [e]; exact ⟨rfl, rfl, rfl, rfl, (kS.rf.uL 61 47 _ (by decide)).uL 61 48 _ (by decide), fun q => absurd q (by decide)⟩))
                  | (first
                      | (have f1 : w_wh a b c d < 0 := h159; have esz : w_az a b c d = -w_wh a b c d := (by unfold w_az; rw [if_pos f1]); have g185 : ¬ 2000000000000 / w_l1 a b c d + 2 < w_az a b c d := (by rw [esz]; exact h185); have g216 : ¬ 1000000000000 < w_sm a b c d := h216; have g227 : w_sm a b c d < -1000000000000 := h227; have e : w_sumB a b c d = false := (by unfold w_sumB; rw [if_neg hbd, if_neg g55, if_neg g150, if_neg g185, if_neg g216, if_pos g227]); rw [e]; exact ⟨rfl, rfl, rfl, rfl, (kS.rf.uL 61 47 _ (by decide)).uL 61 48 _ (by decide), fun q => absurd q (by decide)⟩)
                      | (have f1 : ¬ w_wh a b c d < 0 := h159; have esz : w_az a b c d = w_wh a b c d := (by unfold w_az; rw [if_neg f1]); have g185 : ¬ 2000000000000 / w_l1 a b c d + 2 < w_az a b c d := (by rw [esz]; exact h185); have g216 : ¬ 1000000000000 < w_sm a b c d := h216; have g227 : w_sm a b c d < -1000000000000 := h227; have e : w_sumB a b c d = false := (by unfold w_sumB; rw [if_neg hbd, if_neg g55, if_neg g150, if_neg g185, if_neg g216, if_pos g227]); rw [e]; exact ⟨rfl, rfl, rfl, rfl, (kS.rf.uL 61 47 _ (by decide)).uL 61 48 _ (by decide), fun q => absurd q (by decide)⟩))
                  | (first
                      | (have f1 : w_wh a b c d < 0 := h159; have esz : w_az a b c d = -w_wh a b c d := (by unfold w_az; rw [if_pos f1]); have g185 : ¬ 2000000000000 / w_l1 a b c d + 2 < w_az a b c d := (by rw [esz]; exact h185); have g216 : ¬ 1000000000000 < w_sm a b c d := h216; have g227 : ¬ w_sm a b c d < -1000000000000 := h227; have e : w_sumB a b c d = true := (by unfold w_sumB; rw [if_neg hbd, if_neg g55, if_neg g150, if_neg g185, if_neg g216, if_neg g227]); rw [e]; exact ⟨rfl, rfl, rfl, rfl, (kS.rf.uL 61 47 _ (by decide)).uL 61 48 _ (by decide), fun _ => ⟨(by unfold w_sumP; rw [if_neg hbd]; rfl), (by unfold w_sumQ; rw [if_neg hbd]; rfl)⟩⟩)
                      | (have f1 : ¬ w_wh a b c d < 0 := h159; have esz : w_az a b c d = w_wh a b c d := (by unfold w_az; rw [if_neg f1]); have g185 : ¬ 2000000000000 / w_l1 a b c d + 2 < w_az a b c d := (by rw [esz]; exact h185); have g216 : ¬ 1000000000000 < w_sm a b c d := h216; have g227 : ¬ w_sm a b c d < -1000000000000 := h227; have e : w_sumB a b c d = true := (by unfold w_sumB; rw [if_neg hbd, if_neg g55, if_neg g150, if_neg g185, if_neg g216, if_neg g227]); rw [e]; exact ⟨rfl, rfl, rfl, rfl, (kS.rf.uL 61 47 _ (by decide)).uL 61 48 _ (by decide), fun _ => ⟨(by unfold w_sumP; rw [if_neg hbd]; rfl), (by unfold w_sumQ; rw [if_neg hbd]; rfl)⟩⟩))
              · refine pv_aload_0 (pc := 220) dX12_sums_220 ?_
                refine pv_getL (pc := 221) dX12_sums_221 fg_X12_320_12 (by decide) (sx_61 hT) ?_
                refine pv_ldc2 (pc := 224) dX12_sums_224 k_X12_137 ?_
                refine pv_lcmp_lt (pc := 227) (tgt := 235) dX12_sums_227 dX12_sums_228 (by decide) (fun h227 => ?_) (fun h227 => ?_)
                · refine pv_iconst (pc := 235) (v := 0) dX12_sums_235 (by decide) ?_
                  refine pv_iret (pc := 236) dX12_sums_236 rfl rfl ?_
                  have g55 : ¬ 1000000000000 / w_y b d < w_x b d := h55
                  have g150 : ¬ 1000000000000 < w_l1 a b c d := h150
                  first
                    | (first
                        | (have f1 : w_wh a b c d < 0 := h159; have esz : w_az a b c d = -w_wh a b c d := (by unfold w_az; rw [if_pos f1]); have g185 : ¬ 2000000000000 / w_l1 a b c d + 2 < w_az a b c d := (by rw [esz]; exact h185); have g216 : 1000000000000 < w_sm a b c d := h216; have e : w_sumB a b c d = false := (by unfold w_sumB; rw [if_neg hbd, if_neg g55, if_neg g150, if_neg g185, if_pos g216]); rw [e]; exact ⟨rfl, rfl, rfl, rfl, (kS.rf.uL 61 47 _ (by decide)).uL 61 48 _ (by decide), fun q => absurd q (by decide)⟩)
                        | (have f1 : ¬ w_wh a b c d < 0 := h159; have esz : w_az a b c d = w_wh a b c d := (by unfold w_az; rw [if_neg f1]); have g185 : ¬ 2000000000000 / w_l1 a b c d + 2 < w_az a b c d := (by rw [esz]; exact h185); have g216 : 1000000000000 < w_sm a b c d := h216; have e : w_sumB a b c d = false := (by unfold w_sumB; rw [if_neg hbd, if_neg g55, if_neg g150, if_neg g185, if_pos g216]); rw [e]; exact ⟨rfl, rfl, rfl, rfl, (kS.rf.uL 61 47 _ (by decide)).uL 61 48 _ (by decide), fun q => absurd q (by decide)⟩))
                    | (first
                        | (have f1 : w_wh a b c d < 0 := h159; have esz : w_az a b c d = -w_wh a b c d := (by unfold w_az; rw [if_pos f1]); have g185 : ¬ 2000000000000 / w_l1 a b c d + 2 < w_az a b c d := (by rw [esz]; exact h185); have g216 : ¬ 1000000000000 < w_sm a b c d := h216; have g227 : w_sm a b c d < -1000000000000 := h227; have e : w_sumB a b c d = false := (by unfold w_sumB; rw [if_neg hbd, if_neg g55, if_neg g150, if_neg g185, if_neg g216, if_pos g227]); rw [e]; exact ⟨rfl, rfl, rfl, rfl, (kS.rf.uL 61 47 _ (by decide)).uL 61 48 _ (by decide), fun q => absurd q (by decide)⟩)
                        | (have f1 : ¬ w_wh a b c d < 0 := h159; have esz : w_az a b c d = w_wh a b c d := (by unfold w_az; rw [if_neg f1]); have g185 : ¬ 2000000000000 / w_l1 a b c d + 2 < w_az a b c d := (by rw [esz]; exact h185); have g216 : ¬ 1000000000000 < w_sm a b c d := h216; have g227 : w_sm a b c d < -1000000000000 := h227; have e : w_sumB a b c d = false := (by unfold w_sumB; rw [if_neg hbd, if_neg g55, if_neg g150, if_neg g185, if_neg g216, if_pos g227]); rw [e]; exact ⟨rfl, rfl, rfl, rfl, (kS.rf.uL 61 47 _ (by decide)).uL 61 48 _ (by decide), fun q => absurd q (by decide)⟩))
                    | (first
                        | (have f1 : w_wh a b c d < 0 := h159; have esz : w_az a b c d = -w_wh a b c d := (by unfold w_az; rw [if_pos f1]); have g185 : ¬ 2000000000000 / w_l1 a b c d + 2 < w_az a b c d := (by rw [esz]; exact h185); have g216 : ¬ 1000000000000 < w_sm a b c d := h216; have g227 : ¬ w_sm a b c d < -1000000000000 := h227; have e : w_sumB a b c d = true := (by unfold w_sumB; rw [if_neg hbd, if_neg g55, if_neg g150, if_neg g185, if_neg g216, if_neg g227]); rw [e]; exact ⟨rfl, rfl, rfl, rfl, (kS.rf.uL 61 47 _ (by decide)).uL 61 48 _ (by decide), fun _ => ⟨(by unfold w_sumP; rw [if_neg hbd]; rfl), (by unfold w_sumQ; rw [if_neg hbd]; rfl)⟩⟩)
                        | (have f1 : ¬ w_wh a b c d < 0 := h159; have esz : w_az a b c d = w_wh a b c d := (by unfold w_az; rw [if_neg f1]); have g185 : ¬ 2000000000000 / w_l1 a b c d + 2 < w_az a b c d := (by rw [esz]; exact h185); have g216 : ¬ 1000000000000 < w_sm a b c d := h216; have g227 : ¬ w_sm a b c d < -1000000000000 := h227; have e : w_sumB a b c d = true := (by unfold w_sumB; rw [if_neg hbd, if_neg g55, if_neg g150, if_neg g185, if_neg g216, if_neg g227]); rw [e]; exact ⟨rfl, rfl, rfl, rfl, (kS.rf.uL 61 47 _ (by decide)).uL 61 48 _ (by decide), fun _ => ⟨(by unfold w_sumP; rw [if_neg hbd]; rfl), (by unfold w_sumQ; rw [if_neg hbd]; rfl)⟩⟩))
                · refine pv_iconst (pc := 231) (v := 1) dX12_sums_231 (by decide) ?_
                  refine pv_goto (pc := 232) (tgt := 236) dX12_sums_232 (by decide) ?_
                  refine pv_iret (pc := 236) dX12_sums_236 rfl rfl ?_
                  have g55 : ¬ 1000000000000 / w_y b d < w_x b d := h55
                  have g150 : ¬ 1000000000000 < w_l1 a b c d := h150
                  first
                    | (first
                        | (have f1 : w_wh a b c d < 0 := h159; have esz : w_az a b c d = -w_wh a b c d := (by unfold w_az; rw [if_pos f1]); have g185 : ¬ 2000000000000 / w_l1 a b c d + 2 < w_az a b c d := (by rw [esz]; exact h185); have g216 : 1000000000000 < w_sm a b c d := h216; have e : w_sumB a b c d = false := (by unfold w_sumB; rw [if_neg hbd, if_neg g55, if_neg g150, if_neg g185, if_pos g216]); rw [e]; exact ⟨rfl, rfl, rfl, rfl, (kS.rf.uL 61 47 _ (by decide)).uL 61 48 _ (by decide), fun q => absurd q (by decide)⟩)
                        | (have f1 : ¬ w_wh a b c d < 0 := h159; have esz : w_az a b c d = w_wh a b c d := (by unfold w_az; rw [if_neg f1]); have g185 : ¬ 2000000000000 / w_l1 a b c d + 2 < w_az a b c d := (by rw [esz]; exact h185); have g216 : 1000000000000 < w_sm a b c d := h216; have e : w_sumB a b c d = false := (by unfold w_sumB; rw [if_neg hbd, if_neg g55, if_neg g150, if_neg g185, if_pos g216]); rw [e]; exact ⟨rfl, rfl, rfl, rfl, (kS.rf.uL 61 47 _ (by decide)).uL 61 48 _ (by decide), fun q => absurd q (by decide)⟩))
                    | (first
                        | (have f1 : w_wh a b c d < 0 := h159; have esz : w_az a b c d = -w_wh a b c d := (by unfold w_az; rw [if_pos f1]); have g185 : ¬ 2000000000000 / w_l1 a b c d + 2 < w_az a b c d := (by rw [esz]; exact h185); have g216 : ¬ 1000000000000 < w_sm a b c d := h216; have g227 : w_sm a b c d < -1000000000000 := h227; have e : w_sumB a b c d = false := (by unfold w_sumB; rw [if_neg hbd, if_neg g55, if_neg g150, if_neg g185, if_neg g216, if_pos g227]); rw [e]; exact ⟨rfl, rfl, rfl, rfl, (kS.rf.uL 61 47 _ (by decide)).uL 61 48 _ (by decide), fun q => absurd q (by decide)⟩)
                        | (have f1 : ¬ w_wh a b c d < 0 := h159; have esz : w_az a b c d = w_wh a b c d := (by unfold w_az; rw [if_neg f1]); have g185 : ¬ 2000000000000 / w_l1 a b c d + 2 < w_az a b c d := (by rw [esz]; exact h185); have g216 : ¬ 1000000000000 < w_sm a b c d := h216; have g227 : w_sm a b c d < -1000000000000 := h227; have e : w_sumB a b c d = false := (by unfold w_sumB; rw [if_neg hbd, if_neg g55, if_neg g150, if_neg g185, if_neg g216, if_pos g227]); rw [e]; exact ⟨rfl, rfl, rfl, rfl, (kS.rf.uL 61 47 _ (by decide)).uL 61 48 _ (by decide), fun q => absurd q (by decide)⟩))
                    | (first
                        | (have f1 : w_wh a b c d < 0 := h159; have esz : w_az a b c d = -w_wh a b c d := (by unfold w_az; rw [if_pos f1]); have g185 : ¬ 2000000000000 / w_l1 a b c d + 2 < w_az a b c d := (by rw [esz]; exact h185); have g216 : ¬ 1000000000000 < w_sm a b c d := h216; have g227 : ¬ w_sm a b c d < -1000000000000 := h227; have e : w_sumB a b c d = true := (by unfold w_sumB; rw [if_neg hbd, if_neg g55, if_neg g150, if_neg g185, if_neg g216, if_neg g227]); rw [e]; exact ⟨rfl, rfl, rfl, rfl, (kS.rf.uL 61 47 _ (by decide)).uL 61 48 _ (by decide), fun _ => ⟨(by unfold w_sumP; rw [if_neg hbd]; rfl), (by unfold w_sumQ; rw [if_neg hbd]; rfl)⟩⟩)
                        | (have f1 : ¬ w_wh a b c d < 0 := h159; have esz : w_az a b c d = w_wh a b c d := (by unfold w_az; rw [if_neg f1]); have g185 : ¬ 2000000000000 / w_l1 a b c d + 2 < w_az a b c d := (by rw [esz]; exact h185); have g216 : ¬ 1000000000000 < w_sm a b c d := h216; have g227 : ¬ w_sm a b c d < -1000000000000 := h227; have e : w_sumB a b c d = true := (by unfold w_sumB; rw [if_neg hbd, if_neg g55, if_neg g150, if_neg g185, if_neg g216, if_neg g227]); rw [e]; exact ⟨rfl, rfl, rfl, rfl, (kS.rf.uL 61 47 _ (by decide)).uL 61 48 _ (by decide), fun _ => ⟨(by unfold w_sumP; rw [if_neg hbd]; rfl), (by unfold w_sumQ; rw [if_neg hbd]; rfl)⟩⟩))
            · refine pv_iconst (pc := 189) (v := 0) dX12_sums_189 (by decide) ?_
              refine pv_iret (pc := 190) dX12_sums_190 rfl rfl ?_
              have g55 : ¬ 1000000000000 / w_y b d < w_x b d := h55
              have g150 : ¬ 1000000000000 < w_l1 a b c d := h150
              first
                | (have f1 : w_wh a b c d < 0 := h159; have esz : w_az a b c d = -w_wh a b c d := (by unfold w_az; rw [if_pos f1]); have g185 : 2000000000000 / w_l1 a b c d + 2 < w_az a b c d := (by rw [esz]; exact h185); have e : w_sumB a b c d = false := (by unfold w_sumB; rw [if_neg hbd, if_neg g55, if_neg g150, if_pos g185]); rw [e]; exact ⟨rfl, rfl, rfl, rfl, kS.rf, fun q => absurd q (by decide)⟩)
                | (have f1 : ¬ w_wh a b c d < 0 := h159; have esz : w_az a b c d = w_wh a b c d := (by unfold w_az; rw [if_neg f1]); have g185 : 2000000000000 / w_l1 a b c d + 2 < w_az a b c d := (by rw [esz]; exact h185); have e : w_sumB a b c d = false := (by unfold w_sumB; rw [if_neg hbd, if_neg g55, if_neg g150, if_pos g185]); rw [e]; exact ⟨rfl, rfl, rfl, rfl, kS.rf, fun q => absurd q (by decide)⟩)
        · refine pv_iconst (pc := 154) (v := 0) dX12_sums_154 (by decide) ?_
          refine pv_iret (pc := 155) dX12_sums_155 rfl rfl ?_
          have g55 : ¬ 1000000000000 / w_y b d < w_x b d := h55
          have g150 : 1000000000000 < w_l1 a b c d := h150
          have e : w_sumB a b c d = false := by unfold w_sumB; rw [if_neg hbd, if_neg g55, if_pos g150]
          rw [e]; exact ⟨rfl, rfl, rfl, rfl, kS.rf, fun q => absurd q (by decide)⟩
      · refine pv_iconst (pc := 59) (v := 0) dX12_sums_59 (by decide) ?_
        refine pv_iret (pc := 60) dX12_sums_60 rfl rfl ?_
        have g55 : 1000000000000 / w_y b d < w_x b d := h55
        have e : w_sumB a b c d = false := by unfold w_sumB; rw [if_neg hbd, if_pos g55]
        rw [e]; exact ⟨rfl, rfl, rfl, rfl, kS.rf, fun q => absurd q (by decide)⟩
    · refine pv_aload_0 (pc := 13) dX12_sums_13 ?_
      refine pv_lconst (pc := 14) (v := 1) dX12_sums_14 (by decide) ?_
      refine pv_putL (pc := 15) dX12_sums_15 fl_X12_320_12 (fun q => by cases q) (by decide) (sx_61 hT) ?_
      refine pv_aload_0 (pc := 18) dX12_sums_18 ?_
      refine pv_lconst (pc := 19) (v := 0) dX12_sums_19 (by decide) ?_
      refine pv_putL (pc := 20) dX12_sums_20 fl_X12_323_12 (fun q => by cases q) (by decide) (sx_61 hT) ?_
      refine pv_iconst (pc := 23) (v := 1) dX12_sums_23 (by decide) ?_
      refine pv_iret (pc := 24) dX12_sums_24 rfl rfl ?_
      have hbd : b = 0 ∨ d = 0 := (by first | exact Or.inl h2 | exact Or.inr (Classical.not_not.mp h9) | exact Or.inr h9)
      have e : w_sumB a b c d = true := by unfold w_sumB; rw [if_pos hbd]
      rw [e]
      exact ⟨rfl, rfl, rfl, rfl, (kS.rf.uL 61 47 _ (by decide)).uL 61 48 _ (by decide), fun _ => ⟨(by unfold w_sumP; rw [if_pos hbd]; rfl), (by unfold w_sumQ; rw [if_pos hbd]; rfl)⟩⟩

def s_small (a : Int64) : Bool := decide (a ≤ 1000000000) && decide (-1000000000 ≤ a)
def w_joined (K : pv_L) (a b : Int64) : Bool := s_small a && s_small b && s_small (K 0 0) && s_small (K 0 1)
def w_fp (a b : Int64) : Int64 := if a = 0 then 1 else if a < 0 then -b else b
def w_fq (a : Int64) : Int64 := if a = 0 then 0 else if a < 0 then -a else a
theorem s_small_i {a : Int64} (h : s_small a = true) : -1000000000 ≤ a.toInt ∧ a.toInt ≤ 1000000000 := by
  simp only [s_small, Bool.and_eq_true, decide_eq_true_eq, l64_le, (show (1000000000 : Int64).toInt = 1000000000 from by decide), (show ((-1000000000) : Int64).toInt = (-1000000000) from by decide)] at h
  omega
theorem j_of {a b : Int64} (ha : s_small a = true) (hb : s_small b = true) (h0 : 0 ≤ b.toInt) : j_ok a b := ⟨h0, (s_small_i hb).2, s_small_i ha⟩
theorem j_fl {a b : Int64} (h : j_ok a b) : j_ok (w_fp a b) (w_fq a) := by
  obtain ⟨h1, h2, h3, h4⟩ := h
  unfold w_fp w_fq j_ok
  by_cases e : a = 0
  · rw [if_pos e, if_pos e, l64_0, l64_1]; omega
  · rw [if_neg e, if_neg e]
    by_cases f : a < 0
    · rw [if_pos f, if_pos f, l64_neg (by omega), l64_neg (by omega)]
      rw [l64_lt, l64_0] at f
      omega
    · rw [if_neg f, if_neg f]
      rw [l64_lt, l64_0] at f
      omega
theorem w_joined_i {K : pv_L} {a b : Int64} (h : w_joined K a b = true) : s_small a = true ∧ s_small b = true ∧ s_small (K 0 0) = true ∧ s_small (K 0 1) = true := by
  simp only [w_joined, Bool.and_eq_true] at h
  exact ⟨h.1.1.1, h.1.1.2, h.1.2, h.2⟩
def S_side (J : pv_I) (K : pv_L) (a b : Int64) (x : Int32) : SR := if x < 0 ∨ 1 < x then S_ref J K 5 (.long (-2000000000000 + (-5 : Int32).toInt64)) else if s_num a b = true then (if w_joined K a b = true then (if w_sumB (K 0 0) (K 0 1) a b = true then (.long (if x = 0 then w_sumP (K 0 0) (K 0 1) a b else w_sumQ (K 0 0) (K 0 1) a b), J, K) else S_ref J K 7 (.long (-2000000000000 + (-7 : Int32).toInt64))) else S_ref J K 7 (.long (-2000000000000 + (-7 : Int32).toInt64))) else S_ref J K 6 (.long (-2000000000000 + (-6 : Int32).toInt64))
def w_oP (K : pv_L) (a b : Int64) : Int64 := w_sumP (w_fp (K 0 0) (K 0 1)) (w_fq (K 0 0)) (w_fp a b) (w_fq a)
def w_oQ (K : pv_L) (a b : Int64) : Int64 := w_sumQ (w_fp (K 0 0) (K 0 1)) (w_fq (K 0 0)) (w_fp a b) (w_fq a)
def w_oB (K : pv_L) (a b : Int64) : Bool := w_sumB (w_fp (K 0 0) (K 0 1)) (w_fq (K 0 0)) (w_fp a b) (w_fq a)
def S_over (J : pv_I) (K : pv_L) (a b : Int64) (x : Int32) : SR := if x < 0 ∨ 1 < x then S_ref J K 5 (.long (-2000000000000 + (-5 : Int32).toInt64)) else if s_num a b = true then (if w_joined K a b = true then (if w_oB K a b = true then (.long (if x = 0 then w_fp (w_oP K a b) (w_oQ K a b) else w_fq (w_oP K a b)), J, K) else S_ref J K 7 (.long (-2000000000000 + (-7 : Int32).toInt64))) else S_ref J K 7 (.long (-2000000000000 + (-7 : Int32).toInt64))) else S_ref J K 6 (.long (-2000000000000 + (-6 : Int32).toInt64))
theorem k_l7 : 7 < 8 := by decide
theorem k_l6 : 6 < 8 := by decide
set_option maxRecDepth 100000 in
set_option maxHeartbeats 4000000 in
theorem c_X12_isSmall {G : pv_G} {d : Nat} {a : Int64} {t : pv_T} {I : pv_I} {L : pv_L} {Rf : pv_R} : pv_Mt G mX12_isSmall d 0 0 [.ref 61, .long a] t I L Rf (pv_is (some (.int (pv_b (s_small a)))) t I L Rf) := by
  refine pv_mt mgX12_isSmall.2.2.2.2.2 [.ref 61, .long a, .retAddr 0] rfl (Nat.le_of_ble_eq_true rfl) ?_
  refine pv_lload_1 (pc := 0) dX12_isSmall_0 ?_
  refine pv_ldc2 (pc := 1) dX12_isSmall_1 k_X12_331 ?_
  refine pv_lcmp_gt (pc := 4) (tgt := 20) dX12_isSmall_4 dX12_isSmall_5 (by decide) (fun h4 => ?_) (fun h4 => ?_)
  · refine pv_iconst (pc := 20) (v := 0) dX12_isSmall_20 (by decide) ?_
    refine pv_iret (pc := 21) dX12_isSmall_21 rfl rfl ?_
    refine ⟨congrArg (fun z => some (Value.int z)) ?_, rfl, rfl, rfl, rfl⟩
    unfold s_small
    first
      | (have f1 := h4; rw [decide_eq_false (l_gt f1)]; rfl)
      | (have f1 := h12; rw [decide_eq_false (l_gt f1), Bool.and_false]; rfl)
      | (rw [decide_eq_true (l_ngt h4), decide_eq_true (l_ngt h12)]; rfl)
  · refine pv_lload_1 (pc := 8) dX12_isSmall_8 ?_
    refine pv_ldc2 (pc := 9) dX12_isSmall_9 k_X12_333 ?_
    refine pv_lcmp_lt (pc := 12) (tgt := 20) dX12_isSmall_12 dX12_isSmall_13 (by decide) (fun h12 => ?_) (fun h12 => ?_)
    · refine pv_iconst (pc := 20) (v := 0) dX12_isSmall_20 (by decide) ?_
      refine pv_iret (pc := 21) dX12_isSmall_21 rfl rfl ?_
      refine ⟨congrArg (fun z => some (Value.int z)) ?_, rfl, rfl, rfl, rfl⟩
      unfold s_small
      first
        | (have f1 := h4; rw [decide_eq_false (l_gt f1)]; rfl)
        | (have f1 := h12; rw [decide_eq_false (l_gt f1), Bool.and_false]; rfl)
        | (rw [decide_eq_true (l_ngt h4), decide_eq_true (l_ngt h12)]; rfl)
    · refine pv_iconst (pc := 16) (v := 1) dX12_isSmall_16 (by decide) ?_
      refine pv_goto (pc := 17) (tgt := 21) dX12_isSmall_17 (by decide) ?_
      refine pv_iret (pc := 21) dX12_isSmall_21 rfl rfl ?_
      refine ⟨congrArg (fun z => some (Value.int z)) ?_, rfl, rfl, rfl, rfl⟩
      unfold s_small
      first
        | (have f1 := h4; rw [decide_eq_false (l_gt f1)]; rfl)
        | (have f1 := h12; rw [decide_eq_false (l_gt f1), Bool.and_false]; rfl)
        | (rw [decide_eq_true (l_ngt h4), decide_eq_true (l_ngt h12)]; rfl)

set_option maxRecDepth 100000 in
set_option maxHeartbeats 4000000 in
theorem c_X12_isJoined {G : pv_G} {d : Nat} {a b : Int64} {t : pv_T} {I : pv_I} {L : pv_L} {Rf : pv_R} (hT : sh_ok t) (hd : 1 ≤ d) : pv_Mt G mX12_isJoined d 0 0 [.ref 61, .long a, .long b] t I L Rf (pv_is (some (.int (pv_b (s_small a && s_small b && s_small (L 61 5) && s_small (L 61 6))))) t I L Rf) := by
  refine pv_mt mgX12_isJoined.2.2.2.2.2 [.ref 61, .long a, .retAddr 0, .long b, .retAddr 0] rfl (Nat.le_of_ble_eq_true rfl) ?_
  refine pv_aload_0 (pc := 0) dX12_isJoined_0 ?_
  refine pv_lload_1 (pc := 1) dX12_isJoined_1 ?_
  refine pv_callV1 (pc := 2) dX12_isJoined_2 mgX12_isSmall lv_X12_335_12 (by decide) (sx_61 hT) (by omega) (c_X12_isSmall ) rfl rfl (by decide) ?_
  refine pv_if_eq (pc := 5) (tgt := 42) dX12_isJoined_5 (by decide) (fun h5 => ?_) (fun h5 => ?_)
  · refine pv_iconst (pc := 42) (v := 0) dX12_isJoined_42 (by decide) ?_
    refine pv_iret (pc := 43) dX12_isJoined_43 rfl rfl ?_
    refine ⟨congrArg (fun z => some (Value.int z)) ?_, rfl, rfl, rfl, rfl⟩
    first
      | (have f1 := (pv_b_0 _).mp h5; rw [f1]; rfl)
      | (have f1 := (pv_b_0 _).mp h13; rw [f1, Bool.and_false]; rfl)
      | (have f1 := (pv_b_0 _).mp h24; rw [f1, Bool.and_false]; rfl)
      | (have f1 := (pv_b_0 _).mp h35; rw [f1, Bool.and_false]; rfl)
      | (rw [(pv_b_n0 _).mp h5, (pv_b_n0 _).mp h13, (pv_b_n0 _).mp h24, (pv_b_n0 _).mp h35]; rfl)
  · refine pv_aload_0 (pc := 8) dX12_isJoined_8 ?_
    refine pv_lload_3 (pc := 9) dX12_isJoined_9 ?_
    refine pv_callV1 (pc := 10) dX12_isJoined_10 mgX12_isSmall lv_X12_335_12 (by decide) (sx_61 hT) (by omega) (c_X12_isSmall ) rfl rfl (by decide) ?_
    refine pv_if_eq (pc := 13) (tgt := 42) dX12_isJoined_13 (by decide) (fun h13 => ?_) (fun h13 => ?_)
    · refine pv_iconst (pc := 42) (v := 0) dX12_isJoined_42 (by decide) ?_
      refine pv_iret (pc := 43) dX12_isJoined_43 rfl rfl ?_
      refine ⟨congrArg (fun z => some (Value.int z)) ?_, rfl, rfl, rfl, rfl⟩
      first
        | (have f1 := (pv_b_0 _).mp h5; rw [f1]; rfl)
        | (have f1 := (pv_b_0 _).mp h13; rw [f1, Bool.and_false]; rfl)
        | (have f1 := (pv_b_0 _).mp h24; rw [f1, Bool.and_false]; rfl)
        | (have f1 := (pv_b_0 _).mp h35; rw [f1, Bool.and_false]; rfl)
        | (rw [(pv_b_n0 _).mp h5, (pv_b_n0 _).mp h13, (pv_b_n0 _).mp h24, (pv_b_n0 _).mp h35]; rfl)
    · refine pv_aload_0 (pc := 16) dX12_isJoined_16 ?_
      refine pv_aload_0 (pc := 17) dX12_isJoined_17 ?_
      refine pv_getL (pc := 18) dX12_isJoined_18 fg_X12_147_12 (by decide) (sx_61 hT) ?_
      refine pv_callV1 (pc := 21) dX12_isJoined_21 mgX12_isSmall lv_X12_335_12 (by decide) (sx_61 hT) (by omega) (c_X12_isSmall ) rfl rfl (by decide) ?_
      refine pv_if_eq (pc := 24) (tgt := 42) dX12_isJoined_24 (by decide) (fun h24 => ?_) (fun h24 => ?_)
      · refine pv_iconst (pc := 42) (v := 0) dX12_isJoined_42 (by decide) ?_
        refine pv_iret (pc := 43) dX12_isJoined_43 rfl rfl ?_
        refine ⟨congrArg (fun z => some (Value.int z)) ?_, rfl, rfl, rfl, rfl⟩
        first
          | (have f1 := (pv_b_0 _).mp h5; rw [f1]; rfl)
          | (have f1 := (pv_b_0 _).mp h13; rw [f1, Bool.and_false]; rfl)
          | (have f1 := (pv_b_0 _).mp h24; rw [f1, Bool.and_false]; rfl)
          | (have f1 := (pv_b_0 _).mp h35; rw [f1, Bool.and_false]; rfl)
          | (rw [(pv_b_n0 _).mp h5, (pv_b_n0 _).mp h13, (pv_b_n0 _).mp h24, (pv_b_n0 _).mp h35]; rfl)
      · refine pv_aload_0 (pc := 27) dX12_isJoined_27 ?_
        refine pv_aload_0 (pc := 28) dX12_isJoined_28 ?_
        refine pv_getL (pc := 29) dX12_isJoined_29 fg_X12_16_12 (by decide) (sx_61 hT) ?_
        refine pv_callV1 (pc := 32) dX12_isJoined_32 mgX12_isSmall lv_X12_335_12 (by decide) (sx_61 hT) (by omega) (c_X12_isSmall ) rfl rfl (by decide) ?_
        refine pv_if_eq (pc := 35) (tgt := 42) dX12_isJoined_35 (by decide) (fun h35 => ?_) (fun h35 => ?_)
        · refine pv_iconst (pc := 42) (v := 0) dX12_isJoined_42 (by decide) ?_
          refine pv_iret (pc := 43) dX12_isJoined_43 rfl rfl ?_
          refine ⟨congrArg (fun z => some (Value.int z)) ?_, rfl, rfl, rfl, rfl⟩
          first
            | (have f1 := (pv_b_0 _).mp h5; rw [f1]; rfl)
            | (have f1 := (pv_b_0 _).mp h13; rw [f1, Bool.and_false]; rfl)
            | (have f1 := (pv_b_0 _).mp h24; rw [f1, Bool.and_false]; rfl)
            | (have f1 := (pv_b_0 _).mp h35; rw [f1, Bool.and_false]; rfl)
            | (rw [(pv_b_n0 _).mp h5, (pv_b_n0 _).mp h13, (pv_b_n0 _).mp h24, (pv_b_n0 _).mp h35]; rfl)
        · refine pv_iconst (pc := 38) (v := 1) dX12_isJoined_38 (by decide) ?_
          refine pv_goto (pc := 39) (tgt := 43) dX12_isJoined_39 (by decide) ?_
          refine pv_iret (pc := 43) dX12_isJoined_43 rfl rfl ?_
          refine ⟨congrArg (fun z => some (Value.int z)) ?_, rfl, rfl, rfl, rfl⟩
          first
            | (have f1 := (pv_b_0 _).mp h5; rw [f1]; rfl)
            | (have f1 := (pv_b_0 _).mp h13; rw [f1, Bool.and_false]; rfl)
            | (have f1 := (pv_b_0 _).mp h24; rw [f1, Bool.and_false]; rfl)
            | (have f1 := (pv_b_0 _).mp h35; rw [f1, Bool.and_false]; rfl)
            | (rw [(pv_b_n0 _).mp h5, (pv_b_n0 _).mp h13, (pv_b_n0 _).mp h24, (pv_b_n0 _).mp h35]; rfl)

set_option maxRecDepth 100000 in
set_option maxHeartbeats 4000000 in
theorem c_X12_flipP {G : pv_G} {d : Nat} {a b : Int64} {t : pv_T} {I : pv_I} {L : pv_L} {Rf : pv_R} : pv_Mt G mX12_flipP d 0 0 [.ref 61, .long a, .long b] t I L Rf (pv_is (some (.long (w_fp a b))) t I L Rf) := by
  refine pv_mt mgX12_flipP.2.2.2.2.2 [.ref 61, .long a, .retAddr 0, .long b, .retAddr 0] rfl (Nat.le_of_ble_eq_true rfl) ?_
  refine pv_lload_1 (pc := 0) dX12_flipP_0 ?_
  refine pv_lconst (pc := 1) (v := 0) dX12_flipP_1 (by decide) ?_
  refine pv_lcmp_ne (pc := 2) (tgt := 10) dX12_flipP_2 dX12_flipP_3 (by decide) (fun h2 => ?_) (fun h2 => ?_)
  · refine pv_lload_1 (pc := 10) dX12_flipP_10 ?_
    refine pv_lconst (pc := 11) (v := 0) dX12_flipP_11 (by decide) ?_
    refine pv_lcmp_ge (pc := 12) (tgt := 21) dX12_flipP_12 dX12_flipP_13 (by decide) (fun h12 => ?_) (fun h12 => ?_)
    · refine pv_lload_3 (pc := 21) dX12_flipP_21 ?_
      refine pv_lret (pc := 22) dX12_flipP_22 rfl ?_
      refine ⟨congrArg (fun z => some (Value.long z)) ?_, rfl, rfl, rfl, rfl⟩
      unfold w_fp
      first
        | (have f1 := h2; rw [if_pos f1]; done)
        | (have f1 := h2; have f2 := h12; rw [if_neg f1, if_pos f2]; done)
        | (have f1 := h2; have f2 := h12; rw [if_neg f1, if_neg f2]; done)
    · refine pv_lload_3 (pc := 16) dX12_flipP_16 ?_
      refine pv_lneg (pc := 17) dX12_flipP_17 ?_
      refine pv_goto (pc := 18) (tgt := 22) dX12_flipP_18 (by decide) ?_
      refine pv_lret (pc := 22) dX12_flipP_22 rfl ?_
      refine ⟨congrArg (fun z => some (Value.long z)) ?_, rfl, rfl, rfl, rfl⟩
      unfold w_fp
      first
        | (have f1 := h2; rw [if_pos f1]; done)
        | (have f1 := h2; have f2 := h12; rw [if_neg f1, if_pos f2]; done)
        | (have f1 := h2; have f2 := h12; rw [if_neg f1, if_neg f2]; done)
  · refine pv_lconst (pc := 6) (v := 1) dX12_flipP_6 (by decide) ?_
    refine pv_goto (pc := 7) (tgt := 22) dX12_flipP_7 (by decide) ?_
    refine pv_lret (pc := 22) dX12_flipP_22 rfl ?_
    refine ⟨congrArg (fun z => some (Value.long z)) ?_, rfl, rfl, rfl, rfl⟩
    unfold w_fp
    first
      | (have f1 := h2; rw [if_pos f1]; done)
      | (have f1 := h2; have f2 := h12; rw [if_neg f1, if_pos f2]; done)
      | (have f1 := h2; have f2 := h12; rw [if_neg f1, if_neg f2]; done)

set_option maxRecDepth 100000 in
set_option maxHeartbeats 4000000 in
theorem c_X12_flipQ {G : pv_G} {d : Nat} {a b : Int64} {t : pv_T} {I : pv_I} {L : pv_L} {Rf : pv_R} : pv_Mt G mX12_flipQ d 0 0 [.ref 61, .long a, .long b] t I L Rf (pv_is (some (.long (w_fq a))) t I L Rf) := by
  refine pv_mt mgX12_flipQ.2.2.2.2.2 [.ref 61, .long a, .retAddr 0, .long b, .retAddr 0] rfl (Nat.le_of_ble_eq_true rfl) ?_
  refine pv_lload_1 (pc := 0) dX12_flipQ_0 ?_
  refine pv_lconst (pc := 1) (v := 0) dX12_flipQ_1 (by decide) ?_
  refine pv_lcmp_ne (pc := 2) (tgt := 10) dX12_flipQ_2 dX12_flipQ_3 (by decide) (fun h2 => ?_) (fun h2 => ?_)
  · refine pv_lload_1 (pc := 10) dX12_flipQ_10 ?_
    refine pv_lconst (pc := 11) (v := 0) dX12_flipQ_11 (by decide) ?_
    refine pv_lcmp_ge (pc := 12) (tgt := 21) dX12_flipQ_12 dX12_flipQ_13 (by decide) (fun h12 => ?_) (fun h12 => ?_)
    · refine pv_lload_1 (pc := 21) dX12_flipQ_21 ?_
      refine pv_lret (pc := 22) dX12_flipQ_22 rfl ?_
      refine ⟨congrArg (fun z => some (Value.long z)) ?_, rfl, rfl, rfl, rfl⟩
      unfold w_fq
      first
        | (have f1 := h2; rw [if_pos f1]; done)
        | (have f1 := h2; have f2 := h12; rw [if_neg f1, if_pos f2]; done)
        | (have f1 := h2; have f2 := h12; rw [if_neg f1, if_neg f2]; done)
    · refine pv_lload_1 (pc := 16) dX12_flipQ_16 ?_
      refine pv_lneg (pc := 17) dX12_flipQ_17 ?_
      refine pv_goto (pc := 18) (tgt := 22) dX12_flipQ_18 (by decide) ?_
      refine pv_lret (pc := 22) dX12_flipQ_22 rfl ?_
      refine ⟨congrArg (fun z => some (Value.long z)) ?_, rfl, rfl, rfl, rfl⟩
      unfold w_fq
      first
        | (have f1 := h2; rw [if_pos f1]; done)
        | (have f1 := h2; have f2 := h12; rw [if_neg f1, if_pos f2]; done)
        | (have f1 := h2; have f2 := h12; rw [if_neg f1, if_neg f2]; done)
  · refine pv_lconst (pc := 6) (v := 0) dX12_flipQ_6 (by decide) ?_
    refine pv_goto (pc := 7) (tgt := 22) dX12_flipQ_7 (by decide) ?_
    refine pv_lret (pc := 22) dX12_flipQ_22 rfl ?_
    refine ⟨congrArg (fun z => some (Value.long z)) ?_, rfl, rfl, rfl, rfl⟩
    unfold w_fq
    first
      | (have f1 := h2; rw [if_pos f1]; done)
      | (have f1 := h2; have f2 := h12; rw [if_neg f1, if_pos f2]; done)
      | (have f1 := h2; have f2 := h12; rw [if_neg f1, if_neg f2]; done)

set_option maxRecDepth 100000 in
set_option maxHeartbeats 4000000 in
theorem c_X12_side {G : pv_G} {d : Nat} {J : pv_I} {K : pv_L} {a b : Int64} {x : Int32} {t : pv_T} {I : pv_I} {L : pv_L} {Rf : pv_R} (hT : sh_ok t) (hR : rf_ok Rf) (hW : WF J K) (hM : RM J K I L) (hd : 6 ≤ d) : pv_Mt G mX12_side d 0 0 [.ref 61, .long a, .long b, .int x] t I L Rf (qM (S_side J K a b x) t I L Rf) := by
  refine pv_mt mgX12_side.2.2.2.2.2 [.ref 61, .long a, .retAddr 0, .long b, .retAddr 0, .int x] rfl (Nat.le_of_ble_eq_true rfl) ?_
  obtain ⟨⟨m0, m1, m2, m3, m4, m5, m6, m7, m8⟩, mf, mst, mh, mr, mt, mc, mi⟩ := id hM
  refine pv_iload_5 (pc := 0) dX12_side_0 ?_
  refine pv_if_lt (pc := 2) (tgt := 11) dX12_side_2 (by decide) (fun h2 => ?_) (fun h2 => ?_)
  · refine pv_aload_0 (pc := 11) dX12_side_11 ?_
    refine pv_bipush (pc := 12) (v := (-5)) dX12_side_12 (by decide) ?_
    refine pv_callV1 (pc := 14) dX12_side_14 mgX12_noLow lv_X12_226_12 (by decide) (sx_61 hT) (by omega) (c_X12_noLow (k := 5) hT hR (by decide) (by unfold vp_in; decide)) rfl rfl (by decide) ?_
    refine pv_lret (pc := 17) dX12_side_17 rfl ?_
    first
      | (have f1 := h2; refine qM.ref hM k_lt5b ?_; unfold S_side; rw [if_pos (Or.inl f1)]; done)
      | (have f1 := h8; refine qM.ref hM k_lt5b ?_; unfold S_side; rw [if_pos (Or.inr f1)]; done)
  · refine pv_iload_5 (pc := 5) dX12_side_5 ?_
    refine pv_iconst (pc := 7) (v := 1) dX12_side_7 (by decide) ?_
    refine pv_icmp_le (pc := 8) (tgt := 18) dX12_side_8 (by decide) (fun h8 => ?_) (fun h8 => ?_)
    · refine pv_aload_0 (pc := 18) dX12_side_18 ?_
      refine pv_lload_1 (pc := 19) dX12_side_19 ?_
      refine pv_lload_3 (pc := 20) dX12_side_20 ?_
      refine pv_callV1 (pc := 21) dX12_side_21 mgX12_isNumber lv_X12_143_12 (by decide) (sx_61 hT) (by omega) (c_X12_isNumber hT (by omega)) rfl rfl (by decide) ?_
      refine pv_if_ne (pc := 24) (tgt := 34) dX12_side_24 (by decide) (fun h24 => ?_) (fun h24 => ?_)
      · refine pv_aload_0 (pc := 34) dX12_side_34 ?_
        refine pv_lload_1 (pc := 35) dX12_side_35 ?_
        refine pv_lload_3 (pc := 36) dX12_side_36 ?_
        refine pv_callV1 (pc := 37) dX12_side_37 mgX12_isJoined lv_X12_339_12 (by decide) (sx_61 hT) (by omega) (c_X12_isJoined hT (by omega)) rfl rfl (by decide) ?_
        refine pv_if_eq (pc := 40) (tgt := 60) dX12_side_40 (by decide) (fun h40 => ?_) (fun h40 => ?_)
        · refine pv_aload_0 (pc := 60) dX12_side_60 ?_
          refine pv_bipush (pc := 61) (v := (-7)) dX12_side_61 (by decide) ?_
          refine pv_callV1 (pc := 63) dX12_side_63 mgX12_noLow lv_X12_226_12 (by decide) (sx_61 hT) (by omega) (c_X12_noLow (k := 7) hT hR (by decide) (by unfold vp_in; decide)) rfl rfl (by decide) ?_
          refine pv_lret (pc := 66) dX12_side_66 rfl ?_
          first
            | (have f1 : w_joined K a b = false := (by have f0 := (pv_b_0 _).mp h40; rw [m7, m8] at f0; exact f0)
               refine qM.ref hM k_l7 ?_; unfold S_side; rw [if_neg (fun r => r.elim h2 h8), if_pos ((pv_b_n0 _).mp h24), if_neg (by rw [f1]; decide)]; done)
            | (have f1 := (pv_b_0 _).mp h57
               rw [m7, m8] at f1
               refine qM.scrref hM hk k_l7 ?_; unfold S_side; rw [if_neg (fun r => r.elim h2 h8), if_pos hN, if_pos hJ, if_neg (by rw [f1]; decide)]; done)
        · have hN : s_num a b = true := (pv_b_n0 _).mp h24
          have hJ : w_joined K a b = true := by have f1 := (pv_b_n0 _).mp h40; rw [m7, m8] at f1; exact f1
          obtain ⟨i1, i2, i3, i4⟩ := w_joined_i hJ
          have j2 : j_ok a b := j_of i1 i2 ((s_num_iff _ _).mp hN).1
          have j1 : j_ok (L 61 5) (L 61 6) := by rw [m7, m8]; exact j_of i3 i4 hW.2.2.1.1
          refine pv_aload_0 (pc := 43) dX12_side_43 ?_
          refine pv_aload_0 (pc := 44) dX12_side_44 ?_
          refine pv_getL (pc := 45) dX12_side_45 fg_X12_147_12 (by decide) (sx_61 hT) ?_
          refine pv_aload_0 (pc := 48) dX12_side_48 ?_
          refine pv_getL (pc := 49) dX12_side_49 fg_X12_16_12 (by decide) (sx_61 hT) ?_
          refine pv_lload_1 (pc := 52) dX12_side_52 ?_
          refine pv_lload_3 (pc := 53) dX12_side_53 ?_
          refine pv_callVq (pc := 54) dX12_side_54 mgX12_sums lv_X12_342_12 (by decide) (sx_61 hT) (by omega) (c_X12_sums hT j1 j2 (by omega)) rfl rfl (by decide) (fun v t I L Rf hq => ?_)
          obtain ⟨rfl, rfl, rfl, rfl, hk, hs⟩ := hq
          rw [m7, m8] at hs
          refine pv_if_ne (pc := 57) (tgt := 67) dX12_side_57 (by decide) (fun h57 => ?_) (fun h57 => ?_)
          · refine pv_iload_5 (pc := 67) dX12_side_67 ?_
            refine pv_if_ne (pc := 69) (tgt := 79) dX12_side_69 (by decide) (fun h69 => ?_) (fun h69 => ?_)
            · refine pv_aload_0 (pc := 79) dX12_side_79 ?_
              refine pv_getL (pc := 80) dX12_side_80 fg_X12_323_12 (by decide) (sx_61 hT) ?_
              refine pv_lret (pc := 83) dX12_side_83 rfl ?_
              have f1 := (pv_b_n0 _).mp h57
              rw [m7, m8] at f1
              obtain ⟨s1, s2⟩ := hs f1
              refine qM.scr hM hk ?_; unfold S_side; rw [if_neg (fun r => r.elim h2 h8), if_pos hN, if_pos hJ, if_pos f1]
              first
                | (have f2 := h69; rw [if_pos f2, ← s1]; done)
                | (have f2 := h69; rw [if_neg f2, ← s2]; done)
            · refine pv_aload_0 (pc := 72) dX12_side_72 ?_
              refine pv_getL (pc := 73) dX12_side_73 fg_X12_320_12 (by decide) (sx_61 hT) ?_
              refine pv_goto (pc := 76) (tgt := 83) dX12_side_76 (by decide) ?_
              refine pv_lret (pc := 83) dX12_side_83 rfl ?_
              have f1 := (pv_b_n0 _).mp h57
              rw [m7, m8] at f1
              obtain ⟨s1, s2⟩ := hs f1
              refine qM.scr hM hk ?_; unfold S_side; rw [if_neg (fun r => r.elim h2 h8), if_pos hN, if_pos hJ, if_pos f1]
              first
                | (have f2 := h69; rw [if_pos f2, ← s1]; done)
                | (have f2 := h69; rw [if_neg f2, ← s2]; done)
          · refine pv_aload_0 (pc := 60) dX12_side_60 ?_
            refine pv_bipush (pc := 61) (v := (-7)) dX12_side_61 (by decide) ?_
            refine pv_callV1 (pc := 63) dX12_side_63 mgX12_noLow lv_X12_226_12 (by decide) (sx_61 hT) (by omega) (c_X12_noLow (k := 7) hT hR (by decide) (by unfold vp_in; decide)) rfl rfl (by decide) ?_
            refine pv_lret (pc := 66) dX12_side_66 rfl ?_
            first
              | (have f1 : w_joined K a b = false := (by have f0 := (pv_b_0 _).mp h40; rw [m7, m8] at f0; exact f0)
                 refine qM.ref hM k_l7 ?_; unfold S_side; rw [if_neg (fun r => r.elim h2 h8), if_pos ((pv_b_n0 _).mp h24), if_neg (by rw [f1]; decide)]; done)
              | (have f1 := (pv_b_0 _).mp h57
                 rw [m7, m8] at f1
                 refine qM.scrref hM hk k_l7 ?_; unfold S_side; rw [if_neg (fun r => r.elim h2 h8), if_pos hN, if_pos hJ, if_neg (by rw [f1]; decide)]; done)
      · refine pv_aload_0 (pc := 27) dX12_side_27 ?_
        refine pv_bipush (pc := 28) (v := (-6)) dX12_side_28 (by decide) ?_
        refine pv_callV1 (pc := 30) dX12_side_30 mgX12_noLow lv_X12_226_12 (by decide) (sx_61 hT) (by omega) (c_X12_noLow (k := 6) hT hR (by decide) (by unfold vp_in; decide)) rfl rfl (by decide) ?_
        refine pv_lret (pc := 33) dX12_side_33 rfl ?_
        refine qM.ref hM k_l6 ?_; unfold S_side; rw [if_neg (fun r => r.elim h2 h8), if_neg (by rw [(pv_b_0 _).mp h24]; decide)]
    · refine pv_aload_0 (pc := 11) dX12_side_11 ?_
      refine pv_bipush (pc := 12) (v := (-5)) dX12_side_12 (by decide) ?_
      refine pv_callV1 (pc := 14) dX12_side_14 mgX12_noLow lv_X12_226_12 (by decide) (sx_61 hT) (by omega) (c_X12_noLow (k := 5) hT hR (by decide) (by unfold vp_in; decide)) rfl rfl (by decide) ?_
      refine pv_lret (pc := 17) dX12_side_17 rfl ?_
      first
        | (have f1 := h2; refine qM.ref hM k_lt5b ?_; unfold S_side; rw [if_pos (Or.inl f1)]; done)
        | (have f1 := h8; refine qM.ref hM k_lt5b ?_; unfold S_side; rw [if_pos (Or.inr f1)]; done)

set_option maxRecDepth 100000 in
set_option maxHeartbeats 4000000 in
theorem c_X12_over {G : pv_G} {d : Nat} {J : pv_I} {K : pv_L} {a b : Int64} {x : Int32} {t : pv_T} {I : pv_I} {L : pv_L} {Rf : pv_R} (hT : sh_ok t) (hR : rf_ok Rf) (hW : WF J K) (hM : RM J K I L) (hd : 6 ≤ d) : pv_Mt G mX12_over d 0 0 [.ref 61, .long a, .long b, .int x] t I L Rf (qM (S_over J K a b x) t I L Rf) := by
  refine pv_mt mgX12_over.2.2.2.2.2 [.ref 61, .long a, .retAddr 0, .long b, .retAddr 0, .int x] rfl (Nat.le_of_ble_eq_true rfl) ?_
  obtain ⟨⟨m0, m1, m2, m3, m4, m5, m6, m7, m8⟩, mf, mst, mh, mr, mt, mc, mi⟩ := id hM
  refine pv_iload_5 (pc := 0) dX12_over_0 ?_
  refine pv_if_lt (pc := 2) (tgt := 11) dX12_over_2 (by decide) (fun h2 => ?_) (fun h2 => ?_)
  · refine pv_aload_0 (pc := 11) dX12_over_11 ?_
    refine pv_bipush (pc := 12) (v := (-5)) dX12_over_12 (by decide) ?_
    refine pv_callV1 (pc := 14) dX12_over_14 mgX12_noLow lv_X12_226_12 (by decide) (sx_61 hT) (by omega) (c_X12_noLow (k := 5) hT hR (by decide) (by unfold vp_in; decide)) rfl rfl (by decide) ?_
    refine pv_lret (pc := 17) dX12_over_17 rfl ?_
    first
      | (have f1 := h2; refine qM.ref hM k_lt5b ?_; unfold S_over; rw [if_pos (Or.inl f1)]; done)
      | (have f1 := h8; refine qM.ref hM k_lt5b ?_; unfold S_over; rw [if_pos (Or.inr f1)]; done)
  · refine pv_iload_5 (pc := 5) dX12_over_5 ?_
    refine pv_iconst (pc := 7) (v := 1) dX12_over_7 (by decide) ?_
    refine pv_icmp_le (pc := 8) (tgt := 18) dX12_over_8 (by decide) (fun h8 => ?_) (fun h8 => ?_)
    · refine pv_aload_0 (pc := 18) dX12_over_18 ?_
      refine pv_lload_1 (pc := 19) dX12_over_19 ?_
      refine pv_lload_3 (pc := 20) dX12_over_20 ?_
      refine pv_callV1 (pc := 21) dX12_over_21 mgX12_isNumber lv_X12_143_12 (by decide) (sx_61 hT) (by omega) (c_X12_isNumber hT (by omega)) rfl rfl (by decide) ?_
      refine pv_if_ne (pc := 24) (tgt := 34) dX12_over_24 (by decide) (fun h24 => ?_) (fun h24 => ?_)
      · refine pv_aload_0 (pc := 34) dX12_over_34 ?_
        refine pv_lload_1 (pc := 35) dX12_over_35 ?_
        refine pv_lload_3 (pc := 36) dX12_over_36 ?_
        refine pv_callV1 (pc := 37) dX12_over_37 mgX12_isJoined lv_X12_339_12 (by decide) (sx_61 hT) (by omega) (c_X12_isJoined hT (by omega)) rfl rfl (by decide) ?_
        refine pv_if_eq (pc := 40) (tgt := 86) dX12_over_40 (by decide) (fun h40 => ?_) (fun h40 => ?_)
        · refine pv_aload_0 (pc := 86) dX12_over_86 ?_
          refine pv_bipush (pc := 87) (v := (-7)) dX12_over_87 (by decide) ?_
          refine pv_callV1 (pc := 89) dX12_over_89 mgX12_noLow lv_X12_226_12 (by decide) (sx_61 hT) (by omega) (c_X12_noLow (k := 7) hT hR (by decide) (by unfold vp_in; decide)) rfl rfl (by decide) ?_
          refine pv_lret (pc := 92) dX12_over_92 rfl ?_
          first
            | (have f1 : w_joined K a b = false := (by have f0 := (pv_b_0 _).mp h40; rw [m7, m8] at f0; exact f0)
               refine qM.ref hM k_l7 ?_; unfold S_over; rw [if_neg (fun r => r.elim h2 h8), if_pos ((pv_b_n0 _).mp h24), if_neg (by rw [f1]; decide)]; done)
            | (have f1 := (pv_b_0 _).mp h83
               rw [m7, m8] at f1
               refine qM.scrref hM hk k_l7 ?_; unfold S_over; rw [if_neg (fun r => r.elim h2 h8), if_pos hN, if_pos hJ, if_neg (by show ¬ w_sumB (w_fp (K 0 0) (K 0 1)) (w_fq (K 0 0)) (w_fp a b) (w_fq a) = true; rw [f1]; decide)]; done)
        · have hN : s_num a b = true := (pv_b_n0 _).mp h24
          have hJ : w_joined K a b = true := by have f1 := (pv_b_n0 _).mp h40; rw [m7, m8] at f1; exact f1
          obtain ⟨i1, i2, i3, i4⟩ := w_joined_i hJ
          have j2 : j_ok a b := j_of i1 i2 ((s_num_iff _ _).mp hN).1
          have j1 : j_ok (L 61 5) (L 61 6) := by rw [m7, m8]; exact j_of i3 i4 hW.2.2.1.1
          refine pv_aload_0 (pc := 43) dX12_over_43 ?_
          refine pv_aload_0 (pc := 44) dX12_over_44 ?_
          refine pv_aload_0 (pc := 45) dX12_over_45 ?_
          refine pv_getL (pc := 46) dX12_over_46 fg_X12_147_12 (by decide) (sx_61 hT) ?_
          refine pv_aload_0 (pc := 49) dX12_over_49 ?_
          refine pv_getL (pc := 50) dX12_over_50 fg_X12_16_12 (by decide) (sx_61 hT) ?_
          refine pv_callV1 (pc := 53) dX12_over_53 mgX12_flipP lv_X12_346_12 (by decide) (sx_61 hT) (by omega) (c_X12_flipP ) rfl rfl (Nat.le_of_ble_eq_true rfl) ?_
          refine pv_aload_0 (pc := 56) dX12_over_56 ?_
          refine pv_aload_0 (pc := 57) dX12_over_57 ?_
          refine pv_getL (pc := 58) dX12_over_58 fg_X12_147_12 (by decide) (sx_61 hT) ?_
          refine pv_aload_0 (pc := 61) dX12_over_61 ?_
          refine pv_getL (pc := 62) dX12_over_62 fg_X12_16_12 (by decide) (sx_61 hT) ?_
          refine pv_callV1 (pc := 65) dX12_over_65 mgX12_flipQ lv_X12_349_12 (by decide) (sx_61 hT) (by omega) (c_X12_flipQ ) rfl rfl (Nat.le_of_ble_eq_true rfl) ?_
          refine pv_aload_0 (pc := 68) dX12_over_68 ?_
          refine pv_lload_1 (pc := 69) dX12_over_69 ?_
          refine pv_lload_3 (pc := 70) dX12_over_70 ?_
          refine pv_callV1 (pc := 71) dX12_over_71 mgX12_flipP lv_X12_346_12 (by decide) (sx_61 hT) (by omega) (c_X12_flipP ) rfl rfl (Nat.le_of_ble_eq_true rfl) ?_
          refine pv_aload_0 (pc := 74) dX12_over_74 ?_
          refine pv_lload_1 (pc := 75) dX12_over_75 ?_
          refine pv_lload_3 (pc := 76) dX12_over_76 ?_
          refine pv_callV1 (pc := 77) dX12_over_77 mgX12_flipQ lv_X12_349_12 (by decide) (sx_61 hT) (by omega) (c_X12_flipQ ) rfl rfl (Nat.le_of_ble_eq_true rfl) ?_
          refine pv_callVq (pc := 80) dX12_over_80 mgX12_sums lv_X12_342_12 (by decide) (sx_61 hT) (by omega) (c_X12_sums hT (j_fl j1) (j_fl j2) (by omega)) rfl rfl (by decide) (fun v t I L Rf hq => ?_)
          obtain ⟨rfl, rfl, rfl, rfl, hk, hs⟩ := hq
          rw [m7, m8] at hs
          refine pv_if_ne (pc := 83) (tgt := 93) dX12_over_83 (by decide) (fun h83 => ?_) (fun h83 => ?_)
          · refine pv_iload_5 (pc := 93) dX12_over_93 ?_
            refine pv_if_ne (pc := 95) (tgt := 113) dX12_over_95 (by decide) (fun h95 => ?_) (fun h95 => ?_)
            · refine pv_aload_0 (pc := 113) dX12_over_113 ?_
              refine pv_aload_0 (pc := 114) dX12_over_114 ?_
              refine pv_getL (pc := 115) dX12_over_115 fg_X12_320_12 (by decide) (sx_61 hT) ?_
              refine pv_aload_0 (pc := 118) dX12_over_118 ?_
              refine pv_getL (pc := 119) dX12_over_119 fg_X12_323_12 (by decide) (sx_61 hT) ?_
              refine pv_callV1 (pc := 122) dX12_over_122 mgX12_flipQ lv_X12_349_12 (by decide) (sx_61 hT) (by omega) (c_X12_flipQ ) rfl rfl (by decide) ?_
              refine pv_lret (pc := 125) dX12_over_125 rfl ?_
              have f1 := (pv_b_n0 _).mp h83
              rw [m7, m8] at f1
              obtain ⟨s1, s2⟩ := hs f1
              have s3 : L 61 47 = w_oP K a b := s1
              have s4 : L 61 48 = w_oQ K a b := s2
              have f3 : w_oB K a b = true := f1
              refine qM.scr hM hk ?_; unfold S_over; rw [if_neg (fun r => r.elim h2 h8), if_pos hN, if_pos hJ, if_pos f3, ← s3, ← s4]
              first
                | (have f2 := h95; rw [if_pos f2]; done)
                | (have f2 := h95; rw [if_neg f2]; done)
            · refine pv_aload_0 (pc := 98) dX12_over_98 ?_
              refine pv_aload_0 (pc := 99) dX12_over_99 ?_
              refine pv_getL (pc := 100) dX12_over_100 fg_X12_320_12 (by decide) (sx_61 hT) ?_
              refine pv_aload_0 (pc := 103) dX12_over_103 ?_
              refine pv_getL (pc := 104) dX12_over_104 fg_X12_323_12 (by decide) (sx_61 hT) ?_
              refine pv_callV1 (pc := 107) dX12_over_107 mgX12_flipP lv_X12_346_12 (by decide) (sx_61 hT) (by omega) (c_X12_flipP ) rfl rfl (by decide) ?_
              refine pv_goto (pc := 110) (tgt := 125) dX12_over_110 (by decide) ?_
              refine pv_lret (pc := 125) dX12_over_125 rfl ?_
              have f1 := (pv_b_n0 _).mp h83
              rw [m7, m8] at f1
              obtain ⟨s1, s2⟩ := hs f1
              have s3 : L 61 47 = w_oP K a b := s1
              have s4 : L 61 48 = w_oQ K a b := s2
              have f3 : w_oB K a b = true := f1
              refine qM.scr hM hk ?_; unfold S_over; rw [if_neg (fun r => r.elim h2 h8), if_pos hN, if_pos hJ, if_pos f3, ← s3, ← s4]
              first
                | (have f2 := h95; rw [if_pos f2]; done)
                | (have f2 := h95; rw [if_neg f2]; done)
          · refine pv_aload_0 (pc := 86) dX12_over_86 ?_
            refine pv_bipush (pc := 87) (v := (-7)) dX12_over_87 (by decide) ?_
            refine pv_callV1 (pc := 89) dX12_over_89 mgX12_noLow lv_X12_226_12 (by decide) (sx_61 hT) (by omega) (c_X12_noLow (k := 7) hT hR (by decide) (by unfold vp_in; decide)) rfl rfl (by decide) ?_
            refine pv_lret (pc := 92) dX12_over_92 rfl ?_
            first
              | (have f1 : w_joined K a b = false := (by have f0 := (pv_b_0 _).mp h40; rw [m7, m8] at f0; exact f0)
                 refine qM.ref hM k_l7 ?_; unfold S_over; rw [if_neg (fun r => r.elim h2 h8), if_pos ((pv_b_n0 _).mp h24), if_neg (by rw [f1]; decide)]; done)
              | (have f1 := (pv_b_0 _).mp h83
                 rw [m7, m8] at f1
                 refine qM.scrref hM hk k_l7 ?_; unfold S_over; rw [if_neg (fun r => r.elim h2 h8), if_pos hN, if_pos hJ, if_neg (by show ¬ w_sumB (w_fp (K 0 0) (K 0 1)) (w_fq (K 0 0)) (w_fp a b) (w_fq a) = true; rw [f1]; decide)]; done)
      · refine pv_aload_0 (pc := 27) dX12_over_27 ?_
        refine pv_bipush (pc := 28) (v := (-6)) dX12_over_28 (by decide) ?_
        refine pv_callV1 (pc := 30) dX12_over_30 mgX12_noLow lv_X12_226_12 (by decide) (sx_61 hT) (by omega) (c_X12_noLow (k := 6) hT hR (by decide) (by unfold vp_in; decide)) rfl rfl (by decide) ?_
        refine pv_lret (pc := 33) dX12_over_33 rfl ?_
        refine qM.ref hM k_l6 ?_; unfold S_over; rw [if_neg (fun r => r.elim h2 h8), if_neg (by rw [(pv_b_0 _).mp h24]; decide)]
    · refine pv_aload_0 (pc := 11) dX12_over_11 ?_
      refine pv_bipush (pc := 12) (v := (-5)) dX12_over_12 (by decide) ?_
      refine pv_callV1 (pc := 14) dX12_over_14 mgX12_noLow lv_X12_226_12 (by decide) (sx_61 hT) (by omega) (c_X12_noLow (k := 5) hT hR (by decide) (by unfold vp_in; decide)) rfl rfl (by decide) ?_
      refine pv_lret (pc := 17) dX12_over_17 rfl ?_
      first
        | (have f1 := h2; refine qM.ref hM k_lt5b ?_; unfold S_over; rw [if_pos (Or.inl f1)]; done)
        | (have f1 := h8; refine qM.ref hM k_lt5b ?_; unfold S_over; rw [if_pos (Or.inr f1)]; done)

