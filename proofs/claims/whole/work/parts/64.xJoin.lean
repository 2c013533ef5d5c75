/-! two numbers together, by their products -/
theorem jn_N {a b c d X Y G : Int} (hb : X * G = b) (hd : Y * G = d) : a * d + c * b = G * ((a / b + c / d) * (X * Y * G) + (a % b * Y + c % d * X)) ∧ b * d = G * (X * Y * G) := by
  have e1 : a = b * (a / b) + a % b := (Int.mul_ediv_add_emod a b).symm
  have e2 : c = d * (c / d) + c % d := (Int.mul_ediv_add_emod c d).symm
  generalize a / b = u at *
  generalize a % b = v at *
  generalize c / d = w at *
  generalize c % d = z at *
  subst hb hd
  rw [e1, e2]
  constructor
  · grind
  · grind
theorem jn_1 {a b X Y : Int} {c d : Int} (hX : X ∣ b) (hXY : Int.gcd Y X = 1) (ha : Int.gcd a b = 1) : Int.gcd (a % b * Y + c % d * X) X = 1 := by
  rw [Int.gcd_add_mul_right_left]
  have h1 : Int.gcd (a % b) X = 1 := by
    obtain ⟨k, hk⟩ := hX
    have e : a % b = a - X * (k * (a / b)) := by
      rw [Int.emod_def, hk, Int.mul_assoc]
    rw [e, Int.gcd_sub_mul_left_left]
    have : Int.gcd a X ∣ Int.gcd a b := Int.dvd_gcd (Int.gcd_dvd_left ..) (Int.dvd_trans (Int.gcd_dvd_right ..) ⟨k, hk⟩)
    rw [ha] at this
    exact Nat.dvd_one.mp this
  have hc : Nat.Coprime (a % b).natAbs X.natAbs := h1
  have hc2 : Nat.Coprime Y.natAbs X.natAbs := hXY
  show Nat.gcd (a % b * Y).natAbs X.natAbs = 1
  rw [Int.natAbs_mul]
  exact Nat.Coprime.mul_left hc hc2
theorem jn_h {a b c d X Y G : Int} (hb : X * G = b) (hd : Y * G = d) (hG : 1 ≤ G) (hXY : Int.gcd X Y = 1) (ha : Int.gcd a b = 1) (hc : Int.gcd c d = 1) : (Int.gcd (a % b * Y + c % d * X) (X * Y * G) : Int) ≤ G := by
  have g1 : Int.gcd (a % b * Y + c % d * X) X = 1 := jn_1 ⟨G, hb.symm⟩ (by rw [Int.gcd_comm]; exact hXY) ha
  have g2 : Int.gcd (a % b * Y + c % d * X) Y = 1 := by
    rw [Int.add_comm]
    exact jn_1 ⟨G, hd.symm⟩ hXY hc
  generalize a % b * Y + c % d * X = up at *
  have c1 : Nat.Coprime up.natAbs X.natAbs := g1
  have c2 : Nat.Coprime up.natAbs Y.natAbs := g2
  have e : Int.gcd up (X * Y * G) = Nat.gcd up.natAbs G.natAbs := by
    show Nat.gcd up.natAbs (X * Y * G).natAbs = _
    rw [Int.natAbs_mul, Int.natAbs_mul]
    exact Nat.Coprime.gcd_mul_left_cancel_right _ (Nat.Coprime.mul_right c1 c2).symm
  rw [e]
  have : Nat.gcd up.natAbs G.natAbs ≤ G.natAbs := Nat.gcd_le_right _ (by omega)
  omega
theorem jn_g {G M lo up : Int} : Int.gcd (G * (M * lo + up)) (G * lo) = G.natAbs * Int.gcd up lo := by
  rw [Int.gcd_mul_left]
  congr 1
  rw [Int.add_comm, Int.gcd_add_mul_right_left]
def x_np (a b c d : Int64) : Int64 := a * d + c * b
def x_cm (a b c d : Int64) : Int64 := s_gcd (if 0 < x_np a b c d then x_np a b c d else -(x_np a b c d)) (b * d)
def x_jP (a b c d : Int64) : Int64 := if b * d = 0 ∨ x_cm a b c d = 0 then 1 else x_np a b c d / x_cm a b c d
def x_jQ (a b c d : Int64) : Int64 := if b * d = 0 ∨ x_cm a b c d = 0 then 0 else b * d / x_cm a b c d
/-- what the class takes and what the reference takes -/
theorem x_join {a b c d : Int64} (h : j_ok a b) (g : j_ok c d) (ha : b.toInt = 0 ∨ Int.gcd a.toInt b.toInt = 1) (hc : d.toInt = 0 ∨ Int.gcd c.toInt d.toInt = 1) : w_sumB a b c d = !s_wide (x_jP a b c d) (x_jQ a b c d) 1000000000000 ∧ (w_sumB a b c d = true → w_sumP a b c d = x_jP a b c d ∧ w_sumQ a b c d = x_jQ a b c d) := by
  have h0 := h
  have g0 := g
  obtain ⟨h1, h2, h3, h4⟩ := h0
  obtain ⟨g1, g2, g3, g4⟩ := g0
  have bd0 : 0 ≤ b.toInt * d.toInt := Int.mul_nonneg h1 g1
  have bd1 : b.toInt * d.toInt ≤ 1000000000 * 1000000000 := Int.mul_le_mul h2 g2 g1 (by omega)
  have eD : (b * d).toInt = b.toInt * d.toInt := l64_mul (by omega) (by omega)
  by_cases hz : b = 0 ∨ d = 0
  · have hD : b * d = 0 := by
      rw [← Int64.toInt_inj, eD, l64_0]
      rcases hz with r | r
      · rw [r, l64_0, Int.zero_mul]
      · rw [r, l64_0, Int.mul_zero]
    have eP : x_jP a b c d = 1 := by unfold x_jP; rw [if_pos (Or.inl hD)]
    have eQ : x_jQ a b c d = 0 := by unfold x_jQ; rw [if_pos (Or.inl hD)]
    have eB : w_sumB a b c d = true := by unfold w_sumB; rw [if_pos hz]
    rw [eP, eQ, eB]
    refine ⟨by decide, fun _ => ⟨?_, ?_⟩⟩
    · unfold w_sumP; rw [if_pos hz]
    · unfold w_sumQ; rw [if_pos hz]
  · have hb : ¬ b = 0 := fun r => hz (Or.inl r)
    have hd : ¬ d = 0 := fun r => hz (Or.inr r)
    have ha := ha.elim (fun r => absurd r (l64_n0.mp hb)) id
    have hc := hc.elim (fun r => absurd r (l64_n0.mp hd)) id
    obtain ⟨X, Y, G, X1, Y1, G1, X2, Y2, eG, eg, ex, ey, elo, eup, up0, up2, lo1, lo2, hh1, eh, el, eu, l1, l2, l3, ewh⟩ := j_s h g hb hd
    obtain ⟨b0, f1, f2, f3, f4, f5, f6⟩ := j_f h hb
    obtain ⟨d0, k1, k2, k3, k4, k5, k6⟩ := j_f g hd
    have hXY : Int.gcd X Y = 1 := by
      have e : Int.gcd (G * X) (G * Y) = G.natAbs * Int.gcd X Y := Int.gcd_mul_left ..
      rw [Int.mul_comm G X, Int.mul_comm G Y, X2, Y2] at e
      have e2 : Int.gcd b.toInt d.toInt = G.natAbs := by omega
      rw [e2] at e
      have : G.natAbs * 1 = G.natAbs * Int.gcd X Y := by rw [Nat.mul_one]; exact e
      exact (Nat.eq_of_mul_eq_mul_left (by omega) this).symm
    have hle := jn_h (a := a.toInt) (c := c.toInt) X2 Y2 G1 hXY ha hc
    obtain ⟨eN, eDD⟩ := jn_N (a := a.toInt) (c := c.toInt) X2 Y2
    rw [← elo, ← eup, ← ewh] at eN
    rw [← elo] at eDD
    rw [← eup, ← elo, ← eh] at hle
    have eg2 : (Int.gcd (a.toInt * d.toInt + c.toInt * b.toInt) (b.toInt * d.toInt) : Int) = G * (w_h a b c d).toInt := by
      rw [eN, eDD, jn_g, eh]
      rw [Int.natCast_mul, show ((G.natAbs : Nat) : Int) = G by omega]
    have na1 : a.toInt * d.toInt ≤ 1000000000 * d.toInt := Int.mul_le_mul_of_nonneg_right h4 g1
    have na2 : -1000000000 * d.toInt ≤ a.toInt * d.toInt := Int.mul_le_mul_of_nonneg_right h3 g1
    have nc1 : c.toInt * b.toInt ≤ 1000000000 * b.toInt := Int.mul_le_mul_of_nonneg_right g4 h1
    have nc2 : -1000000000 * b.toInt ≤ c.toInt * b.toInt := Int.mul_le_mul_of_nonneg_right g3 h1
    have ea : (a * d).toInt = a.toInt * d.toInt := l64_mul (by omega) (by omega)
    have ec : (c * b).toInt = c.toInt * b.toInt := l64_mul (by omega) (by omega)
    have enp : (x_np a b c d).toInt = a.toInt * d.toInt + c.toInt * b.toInt := by unfold x_np; rw [l64_add (by rw [ea, ec]; omega) (by rw [ea, ec]; omega), ea, ec]
    have ecm : (x_cm a b c d).toInt = G * (w_h a b c d).toInt := by
      unfold x_cm
      rw [← eg2, ← enp, ← eD]
      split
      · rw [s_gcd_to (by omega) (by omega)]
      · have e : (-(x_np a b c d)).toInt = -(x_np a b c d).toInt := l64_neg (by omega)
        rw [s_gcd_to (by omega) (by omega), e, Int.neg_gcd]
    have gh : 1 * 1 ≤ G * (w_h a b c d).toInt := Int.mul_le_mul G1 hh1 (by omega) (by omega)
    have bdp : 0 < b.toInt * d.toInt := Int.mul_pos b0 d0
    have hD : ¬ (b * d = 0 ∨ x_cm a b c d = 0) := fun r => by
      rcases r with r | r
      · rw [← Int64.toInt_inj, eD, l64_0] at r; omega
      · rw [← Int64.toInt_inj, ecm, l64_0] at r; omega
    -- the quotients
    have qQ : b.toInt * d.toInt = (w_l1 a b c d).toInt * (G * (w_h a b c d).toInt) := by rw [eDD, ← l2]; grind
    have qP : a.toInt * d.toInt + c.toInt * b.toInt = ((w_wh a b c d).toInt * (w_l1 a b c d).toInt + (w_u1 a b c d).toInt) * (G * (w_h a b c d).toInt) := by
      rw [eN, ← l2, ← l3]; grind
    have eQ : x_jQ a b c d = w_l1 a b c d := by
      unfold x_jQ
      rw [if_neg hD, ← Int64.toInt_inj, l64_div (by omega) (by omega), eD, ecm, qQ]
      exact Int.mul_ediv_cancel _ (by omega)
    have eP : (x_jP a b c d).toInt = (w_wh a b c d).toInt * (w_l1 a b c d).toInt + (w_u1 a b c d).toInt := by
      unfold x_jP
      rw [if_neg hD, Jvm.Kit.i64_div (by omega), enp, ecm, qP]
      exact Int.mul_tdiv_cancel _ (by omega)
    rw [eQ]
    generalize hW : (w_wh a b c d).toInt = W at *
    generalize hL : (w_l1 a b c d).toInt = Lq at *
    generalize hU : (w_u1 a b c d).toInt = U at *
    have U0 : 0 ≤ U := by
      by_cases r : 0 ≤ U
      · exact r
      · have : U * (w_h a b c d).toInt ≤ -1 * (w_h a b c d).toInt := Int.mul_le_mul_of_nonneg_right (by omega) (by omega)
        omega
    have U2 : U ≤ 2 * Lq := by
      by_cases r : U ≤ 2 * Lq
      · exact r
      · have e1 : (2 * Lq + 1) * (w_h a b c d).toInt ≤ U * (w_h a b c d).toInt := Int.mul_le_mul_of_nonneg_right (by omega) (by omega)
        rw [Int.add_mul, Int.mul_assoc, l2] at e1
        omega
    have Wb : -2000000000 ≤ W ∧ W ≤ 2000000000 := by omega
    have wide : s_wide (x_jP a b c d) (w_l1 a b c d) 1000000000000 = (decide (1000000000000 < Lq) || decide (1000000000000 < W * Lq + U) || decide (W * Lq + U < -1000000000000)) := by
      unfold s_wide
      have n1 : (-(1000000000000 : Int64)).toInt = -1000000000000 := by decide
      rw [Bool.eq_iff_iff]
      simp only [Bool.or_eq_true, decide_eq_true_eq, l64_lt, n1, eP, hL, show (1000000000000 : Int64).toInt = 1000000000000 by decide]
      omega
    rw [wide]
    have hnz : ¬ (b = 0 ∨ d = 0) := hz
    have pP : w_sumP a b c d = w_sm a b c d := by unfold w_sumP; rw [if_neg hnz]
    have pQ : w_sumQ a b c d = w_l1 a b c d := by unfold w_sumQ; rw [if_neg hnz]
    rw [pP, pQ]
    -- the reference's tests, one after another
    unfold w_sumB
    rw [if_neg hnz]
    have M12 : (1000000000000 : Int64).toInt = 1000000000000 := by decide
    have M2 : (2000000000000 : Int64).toInt = 2000000000000 := by decide
    by_cases t1 : 1000000000000 / w_y b d < w_x b d
    · rw [if_pos t1]
      rw [l64_lt, l64_div (by decide) (by omega), ex, ey, M12] at t1
      have e1 : 1000000000000 < X * Y := by
        have q := i_divs (a := 1000000000000) (b := Y) (by omega)
        have : (1000000000000 / Y + 1) * Y ≤ X * Y := Int.mul_le_mul_of_nonneg_right (by omega) (by omega)
        rw [Int.add_mul, Int.one_mul] at this
        omega
      have e2 : X * Y ≤ Lq := by
        by_cases r : X * Y ≤ Lq
        · exact r
        · have z1 : (Lq + 1) * (w_h a b c d).toInt ≤ X * Y * (w_h a b c d).toInt := Int.mul_le_mul_of_nonneg_right (by omega) (by omega)
          have z2 : X * Y * (w_h a b c d).toInt ≤ X * Y * G := Int.mul_le_mul_of_nonneg_left hle (by omega)
          rw [Int.add_mul, Int.one_mul, l2] at z1
          omega
      rw [decide_eq_true (show 1000000000000 < Lq by omega)]
      exact ⟨rfl, fun q => absurd q (by decide)⟩
    · rw [if_neg t1]
      by_cases t2 : 1000000000000 < w_l1 a b c d
      · rw [if_pos t2]
        rw [l64_lt, M12, hL] at t2
        rw [decide_eq_true t2]
        exact ⟨rfl, fun q => absurd q (by decide)⟩
      · rw [if_neg t2]
        rw [l64_lt, M12, hL] at t2
        have esz : (w_az a b c d).toInt = if W < 0 then -W else W := by
          unfold w_az
          by_cases r : w_wh a b c d < 0
          · have r1 := r
            rw [l64_lt, l64_0, hW] at r1
            rw [if_pos r, if_pos r1, l64_neg (by omega), hW]
          · have r1 := r
            rw [l64_lt, l64_0, hW] at r1
            rw [if_neg r, if_neg r1, hW]
        have q := i_divs (a := 2000000000000) (b := Lq) (by omega)
        have q9 : 2000000000000 / Lq ≤ 2000000000000 := Int.ediv_le_self _ (by decide)
        have q8 : 0 ≤ 2000000000000 / Lq := Int.ediv_nonneg (by decide) (by omega)
        have ed : (2000000000000 / w_l1 a b c d + 2).toInt = 2000000000000 / Lq + 2 := by
          have e : (2000000000000 / w_l1 a b c d).toInt = 2000000000000 / Lq := by rw [l64_div (by decide) (by omega), M2, hL]
          rw [l64_add (by rw [e, l64_2]; omega) (by rw [e, l64_2]; omega), e, l64_2]
        by_cases t3 : 2000000000000 / w_l1 a b c d + 2 < w_az a b c d
        · rw [if_pos t3]
          rw [l64_lt, ed, esz] at t3
          have out : 1000000000000 < W * Lq + U ∨ W * Lq + U < -1000000000000 := by
            by_cases r : W < 0
            · rw [if_pos r] at t3
              have z : (2000000000000 / Lq + 3) * Lq ≤ -W * Lq := Int.mul_le_mul_of_nonneg_right (by omega) (by omega)
              rw [Int.add_mul, Int.neg_mul] at z
              omega
            · rw [if_neg r] at t3
              have z : (2000000000000 / Lq + 3) * Lq ≤ W * Lq := Int.mul_le_mul_of_nonneg_right (by omega) (by omega)
              rw [Int.add_mul] at z
              omega
          refine ⟨?_, fun q => absurd q (by decide)⟩
          rcases out with r | r
          · rw [decide_eq_true r, Bool.or_true]; rfl
          · rw [decide_eq_true r, Bool.or_true]; rfl
        · rw [if_neg t3]
          rw [l64_lt, ed, esz] at t3
          have mb : -(2000000000000 + 3 * Lq) ≤ W * Lq ∧ W * Lq ≤ 2000000000000 + 3 * Lq := by
            by_cases r : W < 0
            · rw [if_pos r] at t3
              have z : -W * Lq ≤ (2000000000000 / Lq + 2) * Lq := Int.mul_le_mul_of_nonneg_right (by omega) (by omega)
              have z2 : W * Lq ≤ 0 * Lq := Int.mul_le_mul_of_nonneg_right (by omega) (by omega)
              rw [Int.add_mul, Int.neg_mul] at z
              omega
            · rw [if_neg r] at t3
              have z : W * Lq ≤ (2000000000000 / Lq + 2) * Lq := Int.mul_le_mul_of_nonneg_right (by omega) (by omega)
              have z2 : 0 * Lq ≤ W * Lq := Int.mul_le_mul_of_nonneg_right (by omega) (by omega)
              rw [Int.add_mul] at z
              omega
          have em : (w_wh a b c d * w_l1 a b c d).toInt = W * Lq := by rw [l64_mul (by rw [hW, hL]; omega) (by rw [hW, hL]; omega), hW, hL]
          have es : (w_sm a b c d).toInt = W * Lq + U := by unfold w_sm; rw [l64_add (by rw [em, hU]; omega) (by rw [em, hU]; omega), em, hU]
          have eqs : w_sm a b c d = x_jP a b c d := by rw [← Int64.toInt_inj, es, eP]
          rw [decide_eq_false (show ¬ 1000000000000 < Lq from t2), Bool.false_or]
          have n1 : (-1000000000000 : Int64).toInt = -1000000000000 := by decide
          by_cases t4 : 1000000000000 < w_sm a b c d
          · rw [if_pos t4]
            rw [l64_lt, M12, es] at t4
            rw [decide_eq_true t4]
            exact ⟨rfl, fun q => absurd q (by decide)⟩
          · rw [if_neg t4]
            rw [l64_lt, M12, es] at t4
            rw [decide_eq_false t4]
            by_cases t5 : w_sm a b c d < -1000000000000
            · rw [if_pos t5]
              rw [l64_lt, n1, es] at t5
              rw [decide_eq_true t5]
              exact ⟨rfl, fun q => absurd q (by decide)⟩
            · rw [if_neg t5]
              rw [l64_lt, n1, es] at t5
              rw [decide_eq_false t5]
              exact ⟨rfl, fun _ => ⟨eqs, rfl⟩⟩

