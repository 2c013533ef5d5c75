theorem c_it_add (J : pv_I) (C : Nat → Int64) (n : Nat) : ∀ (a b : Nat) (c : Nat → Int32), c_it J C n (a + b) c = c_it J C n b (c_it J C n a c)
  | 0, b, c => by rw [Nat.zero_add]; rfl
  | a + 1, b, c => by rw [show a + 1 + b = (a + b) + 1 by omega, c_it, c_it_add J C n a b]; rfl
def x_acc (s : Int32) (p0 q0 P1 Q1 P2 Q2 : Int64) : Prop := (p0 + (2 : Int32).toInt64 * (s.toInt64 * P1 - p0) = P2 ∧ q0 + (2 : Int32).toInt64 * (s.toInt64 * Q1 - q0) = Q2) ∨ (p0 + (2 : Int32).toInt64 * (s.toInt64 * P1 - p0) = -P2 ∧ q0 + (2 : Int32).toInt64 * (s.toInt64 * Q1 - q0) = -Q2)
def x_oth (P Q : Int64) : Bool := decide (Q < 0) || (decide (Q = 0) && decide (P < 0))
theorem pm_b {s : Int} (hs : s = 1 ∨ s = -1) {x : Int} (h : -1000000000000 ≤ x ∧ x ≤ 1000000000000) : -1000000000000 ≤ s * x ∧ s * x ≤ 1000000000000 := by
  rcases hs with rfl | rfl <;> omega
theorem so_i {s k : Int32} {a b : Int64} (hs : s.toInt = 1 ∨ s.toInt = -1) (hk : 0 ≤ k.toInt ∧ k.toInt ≤ 1000) (ha : -1000000000000 ≤ a.toInt ∧ a.toInt ≤ 1000000000000) (hb : -1000000000000 ≤ b.toInt ∧ b.toInt ≤ 1000000000000) : (a + k.toInt64 * (s.toInt64 * b - a)).toInt = a.toInt + k.toInt * (s.toInt * b.toInt - a.toInt) := by
  have h1 := pm_b hs hb
  have e1 : (s.toInt64 * b).toInt = s.toInt * b.toInt := by rw [Int64.toInt_mul, Int32.toInt_toInt64, l64 (by omega)]
  have e2 : (s.toInt64 * b - a).toInt = s.toInt * b.toInt - a.toInt := by rw [Int64.toInt_sub, e1, l64 (by omega)]
  have h2 : -2000000000000000 ≤ k.toInt * (s.toInt * b.toInt - a.toInt) ∧ k.toInt * (s.toInt * b.toInt - a.toInt) ≤ 2000000000000000 := by
    have u : k.toInt * (s.toInt * b.toInt - a.toInt) ≤ k.toInt * 2000000000000 := Int.mul_le_mul_of_nonneg_left (by omega) hk.1
    have v : k.toInt * (-2000000000000) ≤ k.toInt * (s.toInt * b.toInt - a.toInt) := Int.mul_le_mul_of_nonneg_left (by omega) hk.1
    omega
  rw [Int64.toInt_add, Int64.toInt_mul, Int32.toInt_toInt64, e2, l64 (a := k.toInt * _) (by omega), l64 (by omega)]
theorem often_line {J : pv_I} {C : Nat → Int64} {n : Nat} (hf : figs J C n) {st sp st' sp' : Int32} {p0 q0 P1 Q1 P2 Q2 : Int64} {c0 : Nat → Int32} (hN0 : s_isN p0 q0) (h12 : (y_go J C n 12 n (st, sp, p0, q0, c0)).1 = n) (h24 : (y_go J C n 24 n (st, sp, p0, q0, c0)).1 = n) (eP1 : P1 = (y_go J C n 12 n (st, sp, p0, q0, c0)).2.2.2.1) (eQ1 : Q1 = (y_go J C n 12 n (st, sp, p0, q0, c0)).2.2.2.2.1) (eP2 : P2 = (y_go J C n 24 n (st, sp, p0, q0, c0)).2.2.2.1) (eQ2 : Q2 = (y_go J C n 24 n (st, sp, p0, q0, c0)).2.2.2.2.1) {s : Int32} (hs : s.toInt = 1 ∨ s.toInt = -1) (ha : x_acc s p0 q0 P1 Q1 P2 Q2) {k l : Nat} {ki : Int32} (hki : ki.toInt = k) (hk : 2 ≤ k) (hk2 : k ≤ 1000) (hl : 1 ≤ l) {P Q P' Q' : Int64} (eP : P = p0 + ki.toInt64 * (s.toInt64 * P1 - p0)) (eQ : Q = q0 + ki.toInt64 * (s.toInt64 * Q1 - q0)) (eP' : P' = if x_oth P Q = true then -P else P) (eQ' : Q' = if x_oth P Q = true then -Q else Q) : (s_wide P' Q' 1000000000000 = true → ¬ (y_go J C n (12 * k + l) n (st, sp, p0, q0, c0)).1 = n) ∧ (s_wide P' Q' 1000000000000 = false → s_isN P' Q' ∧ ((y_go J C n (12 * k + l) n (st, sp, p0, q0, c0)).1 = n ↔ (y_go J C n l n (st', sp', P', Q', (y_go J C n 24 n (st, sp, p0, q0, c0)).2.2.2.2.2)).1 = n) ∧ ((y_go J C n (12 * k + l) n (st, sp, p0, q0, c0)).1 = n → (y_go J C n l n (st', sp', P', Q', (y_go J C n 24 n (st, sp, p0, q0, c0)).2.2.2.2.2)).2.2.2.1 = (y_go J C n (12 * k + l) n (st, sp, p0, q0, c0)).2.2.2.1 ∧ (y_go J C n l n (st', sp', P', Q', (y_go J C n 24 n (st, sp, p0, q0, c0)).2.2.2.2.2)).2.2.2.2.1 = (y_go J C n (12 * k + l) n (st, sp, p0, q0, c0)).2.2.2.2.1 ∧ ∀ j, j < 4 → (y_go J C n l n (st', sp', P', Q', (y_go J C n 24 n (st, sp, p0, q0, c0)).2.2.2.2.2)).2.2.2.2.2 j = (y_go J C n (12 * k + l) n (st, sp, p0, q0, c0)).2.2.2.2.2 j)) := by
  have hd := mt_ch_det J C n 0
  have hw : re2 (p0.toInt, q0.toInt) p0 q0 := Or.inl ⟨rfl, rfl⟩
  obtain ⟨-, A2⟩ := go_vin hf 12 (st, sp, p0, q0, c0) (p0.toInt, q0.toInt) hN0 hw
  obtain ⟨-, B2⟩ := go_vin hf 24 (st, sp, p0, q0, c0) (p0.toInt, q0.toInt) hN0 hw
  obtain ⟨a1, a2, a3⟩ := A2 h12
  obtain ⟨b1, b2, b3⟩ := B2 h24
  rw [← eP1, ← eQ1] at a1 a2
  rw [← eP2, ← eQ2] at b1 b2
  obtain ⟨n1, n2, n3, n4, n5⟩ := id hN0
  obtain ⟨m1, m2, m3, m4, m5⟩ := id a1
  obtain ⟨o1, o2, o3, o4, o5⟩ := id b1
  have k2 : (2 : Int32).toInt = 2 := by decide
  have eqp := so_i (k := 2) (a := p0) (b := P1) hs (by omega) (by omega) (by omega)
  have eqq := so_i (k := 2) (a := q0) (b := Q1) hs (by omega) (by omega) (by omega)
  rw [k2] at eqp eqq
  obtain ⟨e, he, f1, f2⟩ : ∃ e : Int, (e = 1 ∨ e = -1) ∧ 2 * (s.toInt * P1.toInt) - p0.toInt = e * P2.toInt ∧ 2 * (s.toInt * Q1.toInt) - q0.toInt = e * Q2.toInt := by
    rcases ha with ⟨x, y⟩ | ⟨x, y⟩
    · rw [x] at eqp; rw [y] at eqq
      exact ⟨1, Or.inl rfl, by omega, by omega⟩
    · rw [x, Int64.toInt_neg, l64 (by omega)] at eqp; rw [y, Int64.toInt_neg, l64 (by omega)] at eqq
      exact ⟨-1, Or.inr rfl, by omega, by omega⟩
  obtain ⟨g1, g2, g3⟩ := rep_line hd hN0 a1 a2 b2 hs he f1 f2
  have jp := q_jump (q_u_rec1 hd (p0.toInt, q0.toInt)) g3 k
  have jq := q_jump (q_u_rec2 hd (p0.toInt, q0.toInt)) g3 k
  have jp : (q_u (mt_ch J C n 0) (p0.toInt, q0.toInt) (12 * k)).1 = p0.toInt + k * (s.toInt * P1.toInt - p0.toInt) := by rw [g1]; exact jp
  have jq : (q_u (mt_ch J C n 0) (p0.toInt, q0.toInt) (12 * k)).2 = q0.toInt + k * (s.toInt * Q1.toInt - q0.toInt) := by rw [g2]; exact jq
  have tP : P.toInt = (q_u (mt_ch J C n 0) (p0.toInt, q0.toInt) (12 * k)).1 := by
    rw [jp, eP, so_i hs (by omega) (by omega) (by omega), hki]
  have tQ : Q.toInt = (q_u (mt_ch J C n 0) (p0.toInt, q0.toInt) (12 * k)).2 := by
    rw [jq, eQ, so_i hs (by omega) (by omega) (by omega), hki]
  have big : (-4000000000000000 ≤ P.toInt ∧ P.toInt ≤ 4000000000000000) ∧ (-4000000000000000 ≤ Q.toInt ∧ Q.toInt ≤ 4000000000000000) := by
    have key : ∀ x y : Int, (-1000000000000 ≤ x ∧ x ≤ 1000000000000) → (-1000000000000 ≤ y ∧ y ≤ 1000000000000) → -4000000000000000 ≤ x + k * (y - x) ∧ x + k * (y - x) ≤ 4000000000000000 := by
      intro x y hx hy
      have u : (k : Int) * (y - x) ≤ k * 2000000000000 := Int.mul_le_mul_of_nonneg_left (by omega) (by omega)
      have v : (k : Int) * (-2000000000000) ≤ k * (y - x) := Int.mul_le_mul_of_nonneg_left (by omega) (by omega)
      omega
    rw [tP, jp, tQ, jq]
    exact ⟨key _ _ (by omega) (pm_b hs (by omega)), key _ _ (by omega) (pm_b hs (by omega))⟩
  have z0 : (0 : Int64).toInt = 0 := by decide
  have hre : re2 (q_u (mt_ch J C n 0) (p0.toInt, q0.toInt) (12 * k)) P' Q' ∧ 0 ≤ Q'.toInt ∧ (Q'.toInt = 0 → 0 ≤ P'.toInt) := by
    rw [eP', eQ']
    have nP : (-P).toInt = -P.toInt := by rw [Int64.toInt_neg, l64 (by omega)]
    have nQ : (-Q).toInt = -Q.toInt := by rw [Int64.toInt_neg, l64 (by omega)]
    have ho : x_oth P Q = true ↔ Q.toInt < 0 ∨ (Q.toInt = 0 ∧ P.toInt < 0) := by
      unfold x_oth
      simp only [Bool.or_eq_true, Bool.and_eq_true, decide_eq_true_eq, Int64.lt_iff_toInt_lt, ← Int64.toInt_inj, z0]
    by_cases o : x_oth P Q = true
    · rw [if_pos o, if_pos o]
      rw [ho] at o
      unfold re2
      rw [nP, nQ]
      omega
    · rw [if_neg o, if_neg o]
      rw [ho] at o
      unfold re2
      omega
  have hgcd : Int.gcd (q_u (mt_ch J C n 0) (p0.toInt, q0.toInt) (12 * k)).1 (q_u (mt_ch J C n 0) (p0.toInt, q0.toInt) (12 * k)).2 = 1 := by
    rw [q_u_gcd hd]
    exact (gd_isN hN0).2.2.2
  have hwid : s_wide P' Q' 1000000000000 = false ↔ vin (q_u (mt_ch J C n 0) (p0.toInt, q0.toInt) (12 * k)) := by
    unfold s_wide vin q_in
    have e1 : (1000000000000 : Int64).toInt = 1000000000000 := by decide
    have e2 : (-(1000000000000 : Int64)).toInt = -1000000000000 := by decide
    obtain ⟨h1, -, -⟩ := hre
    unfold re2 at h1
    simp only [Bool.or_eq_false_iff, decide_eq_false_iff_not, Int64.lt_iff_toInt_lt, e1, e2]
    omega
  refine ⟨fun hwd hok => ?_, fun hwd => ?_⟩
  · have hv := rep_in hf hN0 (t := 12 * k + l) (r := 12 * k) (by omega) hok
    rw [hwid.mpr hv] at hwd
    cases hwd
  · have hv := hwid.mp hwd
    have hNN : s_isN P' Q' := isN_of hgcd hv hre.1 hre.2.1 (fun z => by
      have h1 := hre.2.2 z
      have h2 : ¬ P'.toInt = 0 := fun q => by
        have h3 := hre.1
        unfold re2 at h3
        have u1 : (q_u (mt_ch J C n 0) (p0.toInt, q0.toInt) (12 * k)).1 = 0 := by omega
        have u2 : (q_u (mt_ch J C n 0) (p0.toInt, q0.toInt) (12 * k)).2 = 0 := by omega
        rw [u1, u2] at hgcd
        exact absurd hgcd (by decide)
      omega)
    exact ⟨hNN, rep_eqv hf hN0 g3 hk hl h24 hre.1 hNN (fun j _ => by rw [b3, c_it_add])⟩

/-! the class: repeated -/
theorem wide_no {p q : Int64} (h : s_isN p q) : s_wide p q 1000000000000 = false := by
  obtain ⟨h1, h2, h3, h4, -⟩ := h
  unfold s_wide
  have e1 : (1000000000000 : Int64).toInt = 1000000000000 := by decide
  have e2 : (-(1000000000000 : Int64)).toInt = -1000000000000 := by decide
  simp only [Bool.or_eq_false_iff, decide_eq_false_iff_not, Int64.lt_iff_toInt_lt, e1, e2]
  omega
theorem figs_of {J : pv_I} {K : pv_L} (hW : WF J K) {s n : Nat} (h : w_figs J K s n) : figs J (K (1 + s)) n := fun i hi => ⟨h i hi, (hW.2.1 _ (w_isF.nat hW (h i hi)).2).2.1⟩
theorem w_figB_le (J : pv_I) (K : pv_L) (s : Nat) {i n : Nat} (hi : i ≤ n) (h : w_figB J K s i = false) : w_figB J K s n = false := by
  cases e : w_figB J K s n with
  | false => rfl
  | true =>
    have h1 := (w_figB_iff J K s n).mp e
    have h2 : w_figB J K s i = true := (w_figB_iff J K s i).mpr (fun j hj => h1 j (by omega))
    rw [h] at h2; cases h2

set_option maxRecDepth 100000 in
set_option maxHeartbeats 4000000 in
theorem l_are {G : pv_G} {d : Nat} {J : pv_I} {K : pv_L} {s n : Int32} {t : pv_T} {I : pv_I} {L : pv_L} {Rf : pv_R} (hW : WF J K) (hX : RX J K t I L Rf) (hb : w_bars J s n = 0) (hd : 3 ≤ d) : ∀ (m i : Nat) (r : Bool), i + m = n.toNatClampNeg → w_figB J K s.toNatClampNeg i = r → pv_V G mX11_areFigures d 0 0 (pv_is (some (.int (pv_b (w_figB J K s.toNatClampNeg n.toNatClampNeg)))) t I L Rf) 0 0 20 [.ref 16, .int s, .int n, .ref (45 + 2 * s.toNatClampNeg), .int (pv_b r), .int (Int32.ofNat i)] [] t I L Rf := by
  have hT := hX.1
  have hR := hX.2.1
  obtain ⟨hin, hs8, n0, n160, hz, hz2, hcell⟩ := w_bars_x hW hX hb
  obtain ⟨-, -, ⟨xp, xq, xn, xst, xsp, xsd, xc⟩, xf, -⟩ := id hX
  have nl := i_lit n
  intro m
  induction m with
  | zero =>
    intro i r hi hv
    skip
    refine pv_iload_4 (pc := 20) dX11_areFigures_20 ?_
    refine pv_if_eq (pc := 22) (tgt := 61) dX11_areFigures_22 (by decide) (fun h22 => ?_) (fun h22 => ?_)
    · refine pv_iload_4 (pc := 61) dX11_areFigures_61 ?_
      refine pv_iret (pc := 63) dX11_areFigures_63 rfl (pv_b_nar _) ?_
      have hv2 : w_figB J K s.toNatClampNeg n.toNatClampNeg = r := by rw [← hv, show n.toNatClampNeg = i by omega]
      rw [hv2]
      exact ⟨rfl, rfl, rfl, rfl, rfl⟩
    · refine pv_iload_5 (pc := 25) dX11_areFigures_25 ?_
      refine pv_iload_2 (pc := 27) dX11_areFigures_27 ?_
      refine pv_icmp_ge (pc := 28) (tgt := 61) dX11_areFigures_28 (by decide) (fun h28 => ?_) (fun h28 => absurd h28 (by have e0 := i_of (k := i) (by omega); simp only [i_lt]; omega))
      refine pv_iload_4 (pc := 61) dX11_areFigures_61 ?_
      refine pv_iret (pc := 63) dX11_areFigures_63 rfl (pv_b_nar _) ?_
      have hv2 : w_figB J K s.toNatClampNeg n.toNatClampNeg = r := by rw [← hv, show n.toNatClampNeg = i by omega]
      rw [hv2]
      exact ⟨rfl, rfl, rfl, rfl, rfl⟩
  | succ m ih =>
    intro i r hi hv
    cases r with
    | false =>
      skip
      refine pv_iload_4 (pc := 20) dX11_areFigures_20 ?_
      refine pv_if_eq (pc := 22) (tgt := 61) dX11_areFigures_22 (by decide) (fun h22 => ?_) (fun h22 => absurd h22 (not_not_intro rfl))
      refine pv_iload_4 (pc := 61) dX11_areFigures_61 ?_
      refine pv_iret (pc := 63) dX11_areFigures_63 rfl (pv_b_nar _) ?_
      rw [w_figB_le J K s.toNatClampNeg (i := i) (by omega) hv]
      exact ⟨rfl, rfl, rfl, rfl, rfl⟩
    | true =>
      by_cases hF : w_isF J (K (1 + s.toNatClampNeg) i).toInt32
      · obtain ⟨x, fx1, fx2, fx3, fx4, fx5, fx6, fx7, fx8, hfb⟩ := xf _ (hF.nat hW).2
        have hF8 := (hF.nat hW).1
        have hFc : (K (1 + s.toNatClampNeg) i).toInt32 < I 21 3 := by rw [xn]; exact hF.2
        refine pv_iload_4 (pc := 20) dX11_areFigures_20 ?_
        refine pv_if_eq (pc := 22) (tgt := 61) dX11_areFigures_22 (by decide) (fun h22 => absurd h22 (by decide)) (fun h22 => ?_)
        refine pv_iload_5 (pc := 25) dX11_areFigures_25 ?_
        refine pv_iload_2 (pc := 27) dX11_areFigures_27 ?_
        refine pv_icmp_ge (pc := 28) (tgt := 61) dX11_areFigures_28 (by decide) (fun h28 => absurd h28 (by have e0 := i_of (k := i) (by omega); simp only [i_lt]; omega)) (fun h28 => ?_)
        refine pv_aload_0 (pc := 31) dX11_areFigures_31 ?_
        refine pv_aload_0 (pc := 32) dX11_areFigures_32 ?_
        refine pv_getR (pc := 33) dX11_areFigures_33 fg_X11_31_11 rfl (by decide) (sx_16 hT) (rx_16_4 hR) ?_
        refine pv_aload_3 (pc := 36) dX11_areFigures_36 ?_
        refine pv_iload_5 (pc := 37) dX11_areFigures_37 ?_
        refine pv_callV1 (pc := 39) dX11_areFigures_39 mgX8_asInt lv_X11_398_8 (by omega) (sx_sh hT hs8) (by omega) (c_asInt_at (v := (K (1 + s.toNatClampNeg) i).toInt32) hT hR hs8 (by omega) hz2 (by rw [hcell _ (by omega)])) rfl rfl (Nat.le_of_ble_eq_true rfl) ?_
        refine pv_callV1 (pc := 42) dX11_areFigures_42 mgX11_figureAt lv_X11_114_11 (by decide) (sx_16 hT) (by omega) (c_X11_figureAt1 hT hR (by decide) (sx_21 hT) hF8 hFc fx1) rfl rfl (by decide) ?_
        refine pv_ifnull (pc := 45) dX11_areFigures_45 ?_
        refine pv_iconst (pc := 48) (v := 1) dX11_areFigures_48 (by decide) ?_
        refine pv_goto (pc := 49) (tgt := 53) dX11_areFigures_49 (by decide) ?_
        refine pv_istore_4 (pc := 53) dX11_areFigures_53 (by decide) rfl ?_
        refine pv_iinc_5 (pc := 55) (v := _ + 1) dX11_areFigures_55 rfl (by decide) rfl ?_
        refine pv_goto (pc := 58) (tgt := 20) dX11_areFigures_58 (by decide) ?_
        rw [i_inc]
        exact ih (i + 1) true (by omega) (by show (w_figB J K s.toNatClampNeg i && decide (0 ≤ (K (1 + s.toNatClampNeg) i).toInt32) && decide ((K (1 + s.toNatClampNeg) i).toInt32 < J 0 0)) = true; rw [hv, decide_eq_true hF.1, decide_eq_true hF.2]; rfl)
      · have hFn : ¬ (0 ≤ (K (1 + s.toNatClampNeg) i).toInt32 ∧ (K (1 + s.toNatClampNeg) i).toInt32 < I 21 3 ∧ (K (1 + s.toNatClampNeg) i).toInt32 < 8) := fun q => hF ⟨q.1, by rw [← xn]; exact q.2.1⟩
        refine pv_iload_4 (pc := 20) dX11_areFigures_20 ?_
        refine pv_if_eq (pc := 22) (tgt := 61) dX11_areFigures_22 (by decide) (fun h22 => absurd h22 (by decide)) (fun h22 => ?_)
        refine pv_iload_5 (pc := 25) dX11_areFigures_25 ?_
        refine pv_iload_2 (pc := 27) dX11_areFigures_27 ?_
        refine pv_icmp_ge (pc := 28) (tgt := 61) dX11_areFigures_28 (by decide) (fun h28 => absurd h28 (by have e0 := i_of (k := i) (by omega); simp only [i_lt]; omega)) (fun h28 => ?_)
        refine pv_aload_0 (pc := 31) dX11_areFigures_31 ?_
        refine pv_aload_0 (pc := 32) dX11_areFigures_32 ?_
        refine pv_getR (pc := 33) dX11_areFigures_33 fg_X11_31_11 rfl (by decide) (sx_16 hT) (rx_16_4 hR) ?_
        refine pv_aload_3 (pc := 36) dX11_areFigures_36 ?_
        refine pv_iload_5 (pc := 37) dX11_areFigures_37 ?_
        refine pv_callV1 (pc := 39) dX11_areFigures_39 mgX8_asInt lv_X11_398_8 (by omega) (sx_sh hT hs8) (by omega) (c_asInt_at (v := (K (1 + s.toNatClampNeg) i).toInt32) hT hR hs8 (by omega) hz2 (by rw [hcell _ (by omega)])) rfl rfl (Nat.le_of_ble_eq_true rfl) ?_
        refine pv_callV1 (pc := 42) dX11_areFigures_42 mgX11_figureAt lv_X11_114_11 (by decide) (sx_16 hT) (by omega) (c_X11_figureAt0 hT hR (by decide) (sx_21 hT) hFn) rfl rfl (by decide) ?_
        refine pv_ifnullN (pc := 45) (tgt := 52) dX11_areFigures_45 (by decide) ?_
        refine pv_iconst (pc := 52) (v := 0) dX11_areFigures_52 (by decide) ?_
        refine pv_istore_4 (pc := 53) dX11_areFigures_53 (by decide) rfl ?_
        refine pv_iinc_5 (pc := 55) (v := _ + 1) dX11_areFigures_55 rfl (by decide) rfl ?_
        refine pv_goto (pc := 58) (tgt := 20) dX11_areFigures_58 (by decide) ?_
        rw [i_inc]
        exact ih (i + 1) false (by omega) (by have e : ¬ w_figB J K s.toNatClampNeg (i + 1) = true := (fun q => hF ((w_figB_iff J K s.toNatClampNeg (i + 1)).mp q i (by omega))); simpa using e)

set_option maxRecDepth 100000 in
set_option maxHeartbeats 4000000 in
theorem c_X11_areFigures {G : pv_G} {d : Nat} {J : pv_I} {K : pv_L} {s n : Int32} {t : pv_T} {I : pv_I} {L : pv_L} {Rf : pv_R} (hW : WF J K) (hX : RX J K t I L Rf) (hb : w_bars J s n = 0) (hd : 5 ≤ d) : pv_Mt G mX11_areFigures d 0 0 [.ref 16, .int s, .int n] t I L Rf (pv_is (some (.int (pv_b (w_figB J K s.toNatClampNeg n.toNatClampNeg)))) t I L Rf) := by
  refine pv_mt mgX11_areFigures.2.2.2.2.2 [.ref 16, .int s, .int n, .retAddr 0, .retAddr 0, .retAddr 0] rfl (Nat.le_of_ble_eq_true rfl) ?_
  have hT := hX.1
  have hR := hX.2.1
  obtain ⟨hin, hs8, n0, n160, hz, hz2, hcell⟩ := w_bars_x hW hX hb
  refine pv_aload_0 (pc := 0) dX11_areFigures_0 ?_
  refine pv_iload_1 (pc := 1) dX11_areFigures_1 ?_
  refine pv_callV1 (pc := 2) dX11_areFigures_2 mgX11_shelfAt lv_X11_66_11 (by decide) (sx_16 hT) (by omega) (c_X11_shelfAt1 hT hR hin) rfl rfl (by decide) ?_
  refine pv_astore_3 (pc := 5) dX11_areFigures_5 (by decide) rfl ?_
  refine pv_aload_3 (pc := 6) dX11_areFigures_6 ?_
  refine pv_ifnull (pc := 7) dX11_areFigures_7 ?_
  refine pv_iconst (pc := 10) (v := 1) dX11_areFigures_10 (by decide) ?_
  refine pv_goto (pc := 11) (tgt := 15) dX11_areFigures_11 (by decide) ?_
  refine pv_istore_4 (pc := 15) dX11_areFigures_15 (by decide) rfl ?_
  refine pv_iconst (pc := 17) (v := 0) dX11_areFigures_17 (by decide) ?_
  refine pv_istore_5 (pc := 18) dX11_areFigures_18 (by decide) rfl ?_
  exact l_are hW hX hb (by omega) n.toNatClampNeg 0 true (by omega) rfl

def x_ac (L : pv_L) (s : Int32) : Prop := x_acc s (L 21 1) (L 21 2) (L 27 1) (L 27 2) (L 25 1) (L 25 2)
def x_sgn (L : pv_L) (v : Int32) : Prop := (v = 1 ∧ x_ac L 1) ∨ (v = -1 ∧ x_ac L (-1)) ∨ v = 0
set_option maxRecDepth 100000 in
set_option maxHeartbeats 4000000 in
theorem c_X11_signOfStraight {G : pv_G} {d : Nat} {t : pv_T} {I : pv_I} {L : pv_L} {Rf : pv_R} (hT : sh_ok t) (hR : rf_ok Rf) (hd : 2 ≤ d) : pv_Mt G mX11_signOfStraight d 0 0 [.ref 16] t I L Rf (fun v t1 I1 L1 R1 => (∃ z, v = some (.int z) ∧ x_sgn L z) ∧ t1 = t ∧ I1 = I ∧ L1 = L ∧ R1 = Rf) := by
  refine pv_mt mgX11_signOfStraight.2.2.2.2.2 [.ref 16, .retAddr 0, .retAddr 0, .retAddr 0, .retAddr 0, .retAddr 0] rfl (Nat.le_of_ble_eq_true rfl) ?_
  refine pv_iconst (pc := 0) (v := 1) dX11_signOfStraight_0 (by decide) ?_
  refine pv_istore_1 (pc := 1) dX11_signOfStraight_1 (by decide) rfl ?_
  refine pv_iload_1 (pc := 2) dX11_signOfStraight_2 ?_
  refine pv_iconst (pc := 3) (v := (-1)) dX11_signOfStraight_3 (by decide) ?_
  refine pv_icmp_lt (pc := 4) (tgt := 112) dX11_signOfStraight_4 (by decide) (fun q => absurd q (by decide)) (fun _ => ?_)
  refine pv_aload_0 (pc := 7) dX11_signOfStraight_7 ?_
  refine pv_getR (pc := 8) dX11_signOfStraight_8 fg_X11_31_11 rfl (by decide) (sx_16 hT) (rx_16_4 hR) ?_
  refine pv_getL (pc := 11) dX11_signOfStraight_11 fg_X11_186_4 (by decide) (sx_21 hT) ?_
  refine pv_iload_1 (pc := 14) dX11_signOfStraight_14 ?_
  refine pv_i2l (pc := 15) dX11_signOfStraight_15 ?_
  refine pv_aload_0 (pc := 16) dX11_signOfStraight_16 ?_
  refine pv_getR (pc := 17) dX11_signOfStraight_17 fg_X11_41_11 rfl (by decide) (sx_16 hT) (rx_16_7 hR) ?_
  refine pv_getL (pc := 20) dX11_signOfStraight_20 fg_X11_186_4 (by decide) (sx_27 hT) ?_
  refine pv_lmul (pc := 23) dX11_signOfStraight_23 ?_
  refine pv_iconst (pc := 24) (v := 2) dX11_signOfStraight_24 (by decide) ?_
  refine pv_callS1 (pc := 25) dX11_signOfStraight_25 mgX11_straightOn ls_X11_408 (by omega) (c_X11_straightOn ) rfl rfl (by decide) ?_
  refine pv_lstore_2 (pc := 28) dX11_signOfStraight_28 (by decide) rfl ?_
  refine pv_aload_0 (pc := 29) dX11_signOfStraight_29 ?_
  refine pv_getR (pc := 30) dX11_signOfStraight_30 fg_X11_31_11 rfl (by decide) (sx_16 hT) (rx_16_4 hR) ?_
  refine pv_getL (pc := 33) dX11_signOfStraight_33 fg_X11_190_4 (by decide) (sx_21 hT) ?_
  refine pv_iload_1 (pc := 36) dX11_signOfStraight_36 ?_
  refine pv_i2l (pc := 37) dX11_signOfStraight_37 ?_
  refine pv_aload_0 (pc := 38) dX11_signOfStraight_38 ?_
  refine pv_getR (pc := 39) dX11_signOfStraight_39 fg_X11_41_11 rfl (by decide) (sx_16 hT) (rx_16_7 hR) ?_
  refine pv_getL (pc := 42) dX11_signOfStraight_42 fg_X11_190_4 (by decide) (sx_27 hT) ?_
  refine pv_lmul (pc := 45) dX11_signOfStraight_45 ?_
  refine pv_iconst (pc := 46) (v := 2) dX11_signOfStraight_46 (by decide) ?_
  refine pv_callS1 (pc := 47) dX11_signOfStraight_47 mgX11_straightOn ls_X11_408 (by omega) (c_X11_straightOn ) rfl rfl (by decide) ?_
  refine pv_lstore_4 (pc := 50) dX11_signOfStraight_50 (by decide) rfl ?_
  refine pv_lload_2 (pc := 52) dX11_signOfStraight_52 ?_
  refine pv_aload_0 (pc := 53) dX11_signOfStraight_53 ?_
  refine pv_getR (pc := 54) dX11_signOfStraight_54 fg_X11_38_11 rfl (by decide) (sx_16 hT) (rx_16_6 hR) ?_
  refine pv_getL (pc := 57) dX11_signOfStraight_57 fg_X11_186_4 (by decide) (sx_25 hT) ?_
  refine pv_lcmp_ne (pc := 60) (tgt := 77) dX11_signOfStraight_60 dX11_signOfStraight_61 (by decide) (fun h60 => ?_) (fun h60 => ?_)
  · refine pv_lload_2 (pc := 77) dX11_signOfStraight_77 ?_
    refine pv_aload_0 (pc := 78) dX11_signOfStraight_78 ?_
    refine pv_getR (pc := 79) dX11_signOfStraight_79 fg_X11_38_11 rfl (by decide) (sx_16 hT) (rx_16_6 hR) ?_
    refine pv_getL (pc := 82) dX11_signOfStraight_82 fg_X11_186_4 (by decide) (sx_25 hT) ?_
    refine pv_lneg (pc := 85) dX11_signOfStraight_85 ?_
    refine pv_lcmp_ne (pc := 86) (tgt := 106) dX11_signOfStraight_86 dX11_signOfStraight_87 (by decide) (fun h86 => ?_) (fun h86 => ?_)
    · refine pv_iinc_1 (pc := 106) (v := (-1)) dX11_signOfStraight_106 (by decide) (by decide) rfl ?_
      refine pv_goto (pc := 109) (tgt := 2) dX11_signOfStraight_109 (by decide) ?_
      refine pv_iload_1 (pc := 2) dX11_signOfStraight_2 ?_
      refine pv_iconst (pc := 3) (v := (-1)) dX11_signOfStraight_3 (by decide) ?_
      refine pv_icmp_lt (pc := 4) (tgt := 112) dX11_signOfStraight_4 (by decide) (fun q => absurd q (by decide)) (fun _ => ?_)
      refine pv_aload_0 (pc := 7) dX11_signOfStraight_7 ?_
      refine pv_getR (pc := 8) dX11_signOfStraight_8 fg_X11_31_11 rfl (by decide) (sx_16 hT) (rx_16_4 hR) ?_
      refine pv_getL (pc := 11) dX11_signOfStraight_11 fg_X11_186_4 (by decide) (sx_21 hT) ?_
      refine pv_iload_1 (pc := 14) dX11_signOfStraight_14 ?_
      refine pv_i2l (pc := 15) dX11_signOfStraight_15 ?_
      refine pv_aload_0 (pc := 16) dX11_signOfStraight_16 ?_
      refine pv_getR (pc := 17) dX11_signOfStraight_17 fg_X11_41_11 rfl (by decide) (sx_16 hT) (rx_16_7 hR) ?_
      refine pv_getL (pc := 20) dX11_signOfStraight_20 fg_X11_186_4 (by decide) (sx_27 hT) ?_
      refine pv_lmul (pc := 23) dX11_signOfStraight_23 ?_
      refine pv_iconst (pc := 24) (v := 2) dX11_signOfStraight_24 (by decide) ?_
      refine pv_callS1 (pc := 25) dX11_signOfStraight_25 mgX11_straightOn ls_X11_408 (by omega) (c_X11_straightOn ) rfl rfl (by decide) ?_
      refine pv_lstore_2 (pc := 28) dX11_signOfStraight_28 (by decide) rfl ?_
      refine pv_aload_0 (pc := 29) dX11_signOfStraight_29 ?_
      refine pv_getR (pc := 30) dX11_signOfStraight_30 fg_X11_31_11 rfl (by decide) (sx_16 hT) (rx_16_4 hR) ?_
      refine pv_getL (pc := 33) dX11_signOfStraight_33 fg_X11_190_4 (by decide) (sx_21 hT) ?_
      refine pv_iload_1 (pc := 36) dX11_signOfStraight_36 ?_
      refine pv_i2l (pc := 37) dX11_signOfStraight_37 ?_
      refine pv_aload_0 (pc := 38) dX11_signOfStraight_38 ?_
      refine pv_getR (pc := 39) dX11_signOfStraight_39 fg_X11_41_11 rfl (by decide) (sx_16 hT) (rx_16_7 hR) ?_
      refine pv_getL (pc := 42) dX11_signOfStraight_42 fg_X11_190_4 (by decide) (sx_27 hT) ?_
      refine pv_lmul (pc := 45) dX11_signOfStraight_45 ?_
      refine pv_iconst (pc := 46) (v := 2) dX11_signOfStraight_46 (by decide) ?_
      refine pv_callS1 (pc := 47) dX11_signOfStraight_47 mgX11_straightOn ls_X11_408 (by omega) (c_X11_straightOn ) rfl rfl (by decide) ?_
      refine pv_lstore_4 (pc := 50) dX11_signOfStraight_50 (by decide) rfl ?_
      refine pv_lload_2 (pc := 52) dX11_signOfStraight_52 ?_
      refine pv_aload_0 (pc := 53) dX11_signOfStraight_53 ?_
      refine pv_getR (pc := 54) dX11_signOfStraight_54 fg_X11_38_11 rfl (by decide) (sx_16 hT) (rx_16_6 hR) ?_
      refine pv_getL (pc := 57) dX11_signOfStraight_57 fg_X11_186_4 (by decide) (sx_25 hT) ?_
      refine pv_lcmp_ne (pc := 60) (tgt := 77) dX11_signOfStraight_60 dX11_signOfStraight_61 (by decide) (fun h60_1 => ?_) (fun h60_1 => ?_)
      · refine pv_lload_2 (pc := 77) dX11_signOfStraight_77 ?_
        refine pv_aload_0 (pc := 78) dX11_signOfStraight_78 ?_
        refine pv_getR (pc := 79) dX11_signOfStraight_79 fg_X11_38_11 rfl (by decide) (sx_16 hT) (rx_16_6 hR) ?_
        refine pv_getL (pc := 82) dX11_signOfStraight_82 fg_X11_186_4 (by decide) (sx_25 hT) ?_
        refine pv_lneg (pc := 85) dX11_signOfStraight_85 ?_
        refine pv_lcmp_ne (pc := 86) (tgt := 106) dX11_signOfStraight_86 dX11_signOfStraight_87 (by decide) (fun h86_1 => ?_) (fun h86_1 => ?_)
        · refine pv_iinc_1 (pc := 106) (v := (-3)) dX11_signOfStraight_106 (by decide) (by decide) rfl ?_
          refine pv_goto (pc := 109) (tgt := 2) dX11_signOfStraight_109 (by decide) ?_
          refine pv_iload_1 (pc := 2) dX11_signOfStraight_2 ?_
          refine pv_iconst (pc := 3) (v := (-1)) dX11_signOfStraight_3 (by decide) ?_
          refine pv_icmp_lt (pc := 4) (tgt := 112) dX11_signOfStraight_4 (by decide) (fun _ => ?_) (fun q => absurd q (by decide))
          refine pv_iconst (pc := 112) (v := 0) dX11_signOfStraight_112 (by decide) ?_
          refine pv_iret (pc := 113) dX11_signOfStraight_113 rfl rfl ?_
          exact ⟨⟨_, rfl, Or.inr (Or.inr rfl)⟩, rfl, rfl, rfl, rfl⟩
        · refine pv_lload_4 (pc := 90) dX11_signOfStraight_90 ?_
          refine pv_aload_0 (pc := 92) dX11_signOfStraight_92 ?_
          refine pv_getR (pc := 93) dX11_signOfStraight_93 fg_X11_38_11 rfl (by decide) (sx_16 hT) (rx_16_6 hR) ?_
          refine pv_getL (pc := 96) dX11_signOfStraight_96 fg_X11_190_4 (by decide) (sx_25 hT) ?_
          refine pv_lneg (pc := 99) dX11_signOfStraight_99 ?_
          refine pv_lcmp_ne (pc := 100) (tgt := 106) dX11_signOfStraight_100 dX11_signOfStraight_101 (by decide) (fun h100 => ?_) (fun h100 => ?_)
          · refine pv_iinc_1 (pc := 106) (v := (-3)) dX11_signOfStraight_106 (by decide) (by decide) rfl ?_
            refine pv_goto (pc := 109) (tgt := 2) dX11_signOfStraight_109 (by decide) ?_
            refine pv_iload_1 (pc := 2) dX11_signOfStraight_2 ?_
            refine pv_iconst (pc := 3) (v := (-1)) dX11_signOfStraight_3 (by decide) ?_
            refine pv_icmp_lt (pc := 4) (tgt := 112) dX11_signOfStraight_4 (by decide) (fun _ => ?_) (fun q => absurd q (by decide))
            refine pv_iconst (pc := 112) (v := 0) dX11_signOfStraight_112 (by decide) ?_
            refine pv_iret (pc := 113) dX11_signOfStraight_113 rfl rfl ?_
            exact ⟨⟨_, rfl, Or.inr (Or.inr rfl)⟩, rfl, rfl, rfl, rfl⟩
          · refine pv_iload_1 (pc := 104) dX11_signOfStraight_104 ?_
            refine pv_iret (pc := 105) dX11_signOfStraight_105 rfl rfl ?_
            refine ⟨⟨_, rfl, ?_⟩, rfl, rfl, rfl, rfl⟩
            refine Or.inr (Or.inl ⟨rfl, ?_⟩)
            unfold x_ac x_acc
            first
              | exact Or.inl ⟨by first | exact h60_1 | exact h60 | exact Classical.not_not.mp h60_1 | exact Classical.not_not.mp h60, by first | exact h73_1 | exact h73 | exact Classical.not_not.mp h73_1 | exact Classical.not_not.mp h73⟩
              | exact Or.inr ⟨by first | exact h86_1 | exact h86 | exact Classical.not_not.mp h86_1 | exact Classical.not_not.mp h86, by first | exact h100_1 | exact h100 | exact Classical.not_not.mp h100_1 | exact Classical.not_not.mp h100⟩
      · refine pv_lload_4 (pc := 64) dX11_signOfStraight_64 ?_
        refine pv_aload_0 (pc := 66) dX11_signOfStraight_66 ?_
        refine pv_getR (pc := 67) dX11_signOfStraight_67 fg_X11_38_11 rfl (by decide) (sx_16 hT) (rx_16_6 hR) ?_
        refine pv_getL (pc := 70) dX11_signOfStraight_70 fg_X11_190_4 (by decide) (sx_25 hT) ?_
        refine pv_lcmp_eq (pc := 73) (tgt := 104) dX11_signOfStraight_73 dX11_signOfStraight_74 (by decide) (fun h73 => ?_) (fun h73 => ?_)
        · refine pv_iload_1 (pc := 104) dX11_signOfStraight_104 ?_
          refine pv_iret (pc := 105) dX11_signOfStraight_105 rfl rfl ?_
          refine ⟨⟨_, rfl, ?_⟩, rfl, rfl, rfl, rfl⟩
          refine Or.inr (Or.inl ⟨rfl, ?_⟩)
          unfold x_ac x_acc
          first
            | exact Or.inl ⟨by first | exact h60_1 | exact h60 | exact Classical.not_not.mp h60_1 | exact Classical.not_not.mp h60, by first | exact h73_1 | exact h73 | exact Classical.not_not.mp h73_1 | exact Classical.not_not.mp h73⟩
            | exact Or.inr ⟨by first | exact h86_1 | exact h86 | exact Classical.not_not.mp h86_1 | exact Classical.not_not.mp h86, by first | exact h100_1 | exact h100 | exact Classical.not_not.mp h100_1 | exact Classical.not_not.mp h100⟩
        · refine pv_lload_2 (pc := 77) dX11_signOfStraight_77 ?_
          refine pv_aload_0 (pc := 78) dX11_signOfStraight_78 ?_
          refine pv_getR (pc := 79) dX11_signOfStraight_79 fg_X11_38_11 rfl (by decide) (sx_16 hT) (rx_16_6 hR) ?_
          refine pv_getL (pc := 82) dX11_signOfStraight_82 fg_X11_186_4 (by decide) (sx_25 hT) ?_
          refine pv_lneg (pc := 85) dX11_signOfStraight_85 ?_
          refine pv_lcmp_ne (pc := 86) (tgt := 106) dX11_signOfStraight_86 dX11_signOfStraight_87 (by decide) (fun h86_1 => ?_) (fun h86_1 => ?_)
          · refine pv_iinc_1 (pc := 106) (v := (-3)) dX11_signOfStraight_106 (by decide) (by decide) rfl ?_
            refine pv_goto (pc := 109) (tgt := 2) dX11_signOfStraight_109 (by decide) ?_
            refine pv_iload_1 (pc := 2) dX11_signOfStraight_2 ?_
            refine pv_iconst (pc := 3) (v := (-1)) dX11_signOfStraight_3 (by decide) ?_
            refine pv_icmp_lt (pc := 4) (tgt := 112) dX11_signOfStraight_4 (by decide) (fun _ => ?_) (fun q => absurd q (by decide))
            refine pv_iconst (pc := 112) (v := 0) dX11_signOfStraight_112 (by decide) ?_
            refine pv_iret (pc := 113) dX11_signOfStraight_113 rfl rfl ?_
            exact ⟨⟨_, rfl, Or.inr (Or.inr rfl)⟩, rfl, rfl, rfl, rfl⟩
          · refine pv_lload_4 (pc := 90) dX11_signOfStraight_90 ?_
            refine pv_aload_0 (pc := 92) dX11_signOfStraight_92 ?_
            refine pv_getR (pc := 93) dX11_signOfStraight_93 fg_X11_38_11 rfl (by decide) (sx_16 hT) (rx_16_6 hR) ?_
            refine pv_getL (pc := 96) dX11_signOfStraight_96 fg_X11_190_4 (by decide) (sx_25 hT) ?_
            refine pv_lneg (pc := 99) dX11_signOfStraight_99 ?_
            refine pv_lcmp_ne (pc := 100) (tgt := 106) dX11_signOfStraight_100 dX11_signOfStraight_101 (by decide) (fun h100 => ?_) (fun h100 => ?_)
            · refine pv_iinc_1 (pc := 106) (v := (-3)) dX11_signOfStraight_106 (by decide) (by decide) rfl ?_
              refine pv_goto (pc := 109) (tgt := 2) dX11_signOfStraight_109 (by decide) ?_
              refine pv_iload_1 (pc := 2) dX11_signOfStraight_2 ?_
              refine pv_iconst (pc := 3) (v := (-1)) dX11_signOfStraight_3 (by decide) ?_
              refine pv_icmp_lt (pc := 4) (tgt := 112) dX11_signOfStraight_4 (by decide) (fun _ => ?_) (fun q => absurd q (by decide))
              refine pv_iconst (pc := 112) (v := 0) dX11_signOfStraight_112 (by decide) ?_
              refine pv_iret (pc := 113) dX11_signOfStraight_113 rfl rfl ?_
              exact ⟨⟨_, rfl, Or.inr (Or.inr rfl)⟩, rfl, rfl, rfl, rfl⟩
            · refine pv_iload_1 (pc := 104) dX11_signOfStraight_104 ?_
              refine pv_iret (pc := 105) dX11_signOfStraight_105 rfl rfl ?_
              refine ⟨⟨_, rfl, ?_⟩, rfl, rfl, rfl, rfl⟩
              refine Or.inr (Or.inl ⟨rfl, ?_⟩)
              unfold x_ac x_acc
              first
                | exact Or.inl ⟨by first | exact h60_1 | exact h60 | exact Classical.not_not.mp h60_1 | exact Classical.not_not.mp h60, by first | exact h73_1 | exact h73 | exact Classical.not_not.mp h73_1 | exact Classical.not_not.mp h73⟩
                | exact Or.inr ⟨by first | exact h86_1 | exact h86 | exact Classical.not_not.mp h86_1 | exact Classical.not_not.mp h86, by first | exact h100_1 | exact h100 | exact Classical.not_not.mp h100_1 | exact Classical.not_not.mp h100⟩
    · refine pv_lload_4 (pc := 90) dX11_signOfStraight_90 ?_
      refine pv_aload_0 (pc := 92) dX11_signOfStraight_92 ?_
      refine pv_getR (pc := 93) dX11_signOfStraight_93 fg_X11_38_11 rfl (by decide) (sx_16 hT) (rx_16_6 hR) ?_
      refine pv_getL (pc := 96) dX11_signOfStraight_96 fg_X11_190_4 (by decide) (sx_25 hT) ?_
      refine pv_lneg (pc := 99) dX11_signOfStraight_99 ?_
      refine pv_lcmp_ne (pc := 100) (tgt := 106) dX11_signOfStraight_100 dX11_signOfStraight_101 (by decide) (fun h100 => ?_) (fun h100 => ?_)
      · refine pv_iinc_1 (pc := 106) (v := (-1)) dX11_signOfStraight_106 (by decide) (by decide) rfl ?_
        refine pv_goto (pc := 109) (tgt := 2) dX11_signOfStraight_109 (by decide) ?_
        refine pv_iload_1 (pc := 2) dX11_signOfStraight_2 ?_
        refine pv_iconst (pc := 3) (v := (-1)) dX11_signOfStraight_3 (by decide) ?_
        refine pv_icmp_lt (pc := 4) (tgt := 112) dX11_signOfStraight_4 (by decide) (fun q => absurd q (by decide)) (fun _ => ?_)
        refine pv_aload_0 (pc := 7) dX11_signOfStraight_7 ?_
        refine pv_getR (pc := 8) dX11_signOfStraight_8 fg_X11_31_11 rfl (by decide) (sx_16 hT) (rx_16_4 hR) ?_
        refine pv_getL (pc := 11) dX11_signOfStraight_11 fg_X11_186_4 (by decide) (sx_21 hT) ?_
        refine pv_iload_1 (pc := 14) dX11_signOfStraight_14 ?_
        refine pv_i2l (pc := 15) dX11_signOfStraight_15 ?_
        refine pv_aload_0 (pc := 16) dX11_signOfStraight_16 ?_
        refine pv_getR (pc := 17) dX11_signOfStraight_17 fg_X11_41_11 rfl (by decide) (sx_16 hT) (rx_16_7 hR) ?_
        refine pv_getL (pc := 20) dX11_signOfStraight_20 fg_X11_186_4 (by decide) (sx_27 hT) ?_
        refine pv_lmul (pc := 23) dX11_signOfStraight_23 ?_
        refine pv_iconst (pc := 24) (v := 2) dX11_signOfStraight_24 (by decide) ?_
        refine pv_callS1 (pc := 25) dX11_signOfStraight_25 mgX11_straightOn ls_X11_408 (by omega) (c_X11_straightOn ) rfl rfl (by decide) ?_
        refine pv_lstore_2 (pc := 28) dX11_signOfStraight_28 (by decide) rfl ?_
        refine pv_aload_0 (pc := 29) dX11_signOfStraight_29 ?_
        refine pv_getR (pc := 30) dX11_signOfStraight_30 fg_X11_31_11 rfl (by decide) (sx_16 hT) (rx_16_4 hR) ?_
        refine pv_getL (pc := 33) dX11_signOfStraight_33 fg_X11_190_4 (by decide) (sx_21 hT) ?_
        refine pv_iload_1 (pc := 36) dX11_signOfStraight_36 ?_
        refine pv_i2l (pc := 37) dX11_signOfStraight_37 ?_
        refine pv_aload_0 (pc := 38) dX11_signOfStraight_38 ?_
        refine pv_getR (pc := 39) dX11_signOfStraight_39 fg_X11_41_11 rfl (by decide) (sx_16 hT) (rx_16_7 hR) ?_
        refine pv_getL (pc := 42) dX11_signOfStraight_42 fg_X11_190_4 (by decide) (sx_27 hT) ?_
        refine pv_lmul (pc := 45) dX11_signOfStraight_45 ?_
        refine pv_iconst (pc := 46) (v := 2) dX11_signOfStraight_46 (by decide) ?_
        refine pv_callS1 (pc := 47) dX11_signOfStraight_47 mgX11_straightOn ls_X11_408 (by omega) (c_X11_straightOn ) rfl rfl (by decide) ?_
        refine pv_lstore_4 (pc := 50) dX11_signOfStraight_50 (by decide) rfl ?_
        refine pv_lload_2 (pc := 52) dX11_signOfStraight_52 ?_
        refine pv_aload_0 (pc := 53) dX11_signOfStraight_53 ?_
        refine pv_getR (pc := 54) dX11_signOfStraight_54 fg_X11_38_11 rfl (by decide) (sx_16 hT) (rx_16_6 hR) ?_
        refine pv_getL (pc := 57) dX11_signOfStraight_57 fg_X11_186_4 (by decide) (sx_25 hT) ?_
        refine pv_lcmp_ne (pc := 60) (tgt := 77) dX11_signOfStraight_60 dX11_signOfStraight_61 (by decide) (fun h60_1 => ?_) (fun h60_1 => ?_)
        · refine pv_lload_2 (pc := 77) dX11_signOfStraight_77 ?_
          refine pv_aload_0 (pc := 78) dX11_signOfStraight_78 ?_
          refine pv_getR (pc := 79) dX11_signOfStraight_79 fg_X11_38_11 rfl (by decide) (sx_16 hT) (rx_16_6 hR) ?_
          refine pv_getL (pc := 82) dX11_signOfStraight_82 fg_X11_186_4 (by decide) (sx_25 hT) ?_
          refine pv_lneg (pc := 85) dX11_signOfStraight_85 ?_
          refine pv_lcmp_ne (pc := 86) (tgt := 106) dX11_signOfStraight_86 dX11_signOfStraight_87 (by decide) (fun h86_1 => ?_) (fun h86_1 => ?_)
          · refine pv_iinc_1 (pc := 106) (v := (-3)) dX11_signOfStraight_106 (by decide) (by decide) rfl ?_
            refine pv_goto (pc := 109) (tgt := 2) dX11_signOfStraight_109 (by decide) ?_
            refine pv_iload_1 (pc := 2) dX11_signOfStraight_2 ?_
            refine pv_iconst (pc := 3) (v := (-1)) dX11_signOfStraight_3 (by decide) ?_
            refine pv_icmp_lt (pc := 4) (tgt := 112) dX11_signOfStraight_4 (by decide) (fun _ => ?_) (fun q => absurd q (by decide))
            refine pv_iconst (pc := 112) (v := 0) dX11_signOfStraight_112 (by decide) ?_
            refine pv_iret (pc := 113) dX11_signOfStraight_113 rfl rfl ?_
            exact ⟨⟨_, rfl, Or.inr (Or.inr rfl)⟩, rfl, rfl, rfl, rfl⟩
          · refine pv_lload_4 (pc := 90) dX11_signOfStraight_90 ?_
            refine pv_aload_0 (pc := 92) dX11_signOfStraight_92 ?_
            refine pv_getR (pc := 93) dX11_signOfStraight_93 fg_X11_38_11 rfl (by decide) (sx_16 hT) (rx_16_6 hR) ?_
            refine pv_getL (pc := 96) dX11_signOfStraight_96 fg_X11_190_4 (by decide) (sx_25 hT) ?_
            refine pv_lneg (pc := 99) dX11_signOfStraight_99 ?_
            refine pv_lcmp_ne (pc := 100) (tgt := 106) dX11_signOfStraight_100 dX11_signOfStraight_101 (by decide) (fun h100_1 => ?_) (fun h100_1 => ?_)
            · refine pv_iinc_1 (pc := 106) (v := (-3)) dX11_signOfStraight_106 (by decide) (by decide) rfl ?_
              refine pv_goto (pc := 109) (tgt := 2) dX11_signOfStraight_109 (by decide) ?_
              refine pv_iload_1 (pc := 2) dX11_signOfStraight_2 ?_
              refine pv_iconst (pc := 3) (v := (-1)) dX11_signOfStraight_3 (by decide) ?_
              refine pv_icmp_lt (pc := 4) (tgt := 112) dX11_signOfStraight_4 (by decide) (fun _ => ?_) (fun q => absurd q (by decide))
              refine pv_iconst (pc := 112) (v := 0) dX11_signOfStraight_112 (by decide) ?_
              refine pv_iret (pc := 113) dX11_signOfStraight_113 rfl rfl ?_
              exact ⟨⟨_, rfl, Or.inr (Or.inr rfl)⟩, rfl, rfl, rfl, rfl⟩
            · refine pv_iload_1 (pc := 104) dX11_signOfStraight_104 ?_
              refine pv_iret (pc := 105) dX11_signOfStraight_105 rfl rfl ?_
              refine ⟨⟨_, rfl, ?_⟩, rfl, rfl, rfl, rfl⟩
              refine Or.inr (Or.inl ⟨rfl, ?_⟩)
              unfold x_ac x_acc
              first
                | exact Or.inl ⟨by first | exact h60_1 | exact h60 | exact Classical.not_not.mp h60_1 | exact Classical.not_not.mp h60, by first | exact h73_1 | exact h73 | exact Classical.not_not.mp h73_1 | exact Classical.not_not.mp h73⟩
                | exact Or.inr ⟨by first | exact h86_1 | exact h86 | exact Classical.not_not.mp h86_1 | exact Classical.not_not.mp h86, by first | exact h100_1 | exact h100 | exact Classical.not_not.mp h100_1 | exact Classical.not_not.mp h100⟩
        · refine pv_lload_4 (pc := 64) dX11_signOfStraight_64 ?_
          refine pv_aload_0 (pc := 66) dX11_signOfStraight_66 ?_
          refine pv_getR (pc := 67) dX11_signOfStraight_67 fg_X11_38_11 rfl (by decide) (sx_16 hT) (rx_16_6 hR) ?_
          refine pv_getL (pc := 70) dX11_signOfStraight_70 fg_X11_190_4 (by decide) (sx_25 hT) ?_
          refine pv_lcmp_eq (pc := 73) (tgt := 104) dX11_signOfStraight_73 dX11_signOfStraight_74 (by decide) (fun h73 => ?_) (fun h73 => ?_)
          · refine pv_iload_1 (pc := 104) dX11_signOfStraight_104 ?_
            refine pv_iret (pc := 105) dX11_signOfStraight_105 rfl rfl ?_
            refine ⟨⟨_, rfl, ?_⟩, rfl, rfl, rfl, rfl⟩
            refine Or.inr (Or.inl ⟨rfl, ?_⟩)
            unfold x_ac x_acc
            first
              | exact Or.inl ⟨by first | exact h60_1 | exact h60 | exact Classical.not_not.mp h60_1 | exact Classical.not_not.mp h60, by first | exact h73_1 | exact h73 | exact Classical.not_not.mp h73_1 | exact Classical.not_not.mp h73⟩
              | exact Or.inr ⟨by first | exact h86_1 | exact h86 | exact Classical.not_not.mp h86_1 | exact Classical.not_not.mp h86, by first | exact h100_1 | exact h100 | exact Classical.not_not.mp h100_1 | exact Classical.not_not.mp h100⟩
          · refine pv_lload_2 (pc := 77) dX11_signOfStraight_77 ?_
            refine pv_aload_0 (pc := 78) dX11_signOfStraight_78 ?_
            refine pv_getR (pc := 79) dX11_signOfStraight_79 fg_X11_38_11 rfl (by decide) (sx_16 hT) (rx_16_6 hR) ?_
            refine pv_getL (pc := 82) dX11_signOfStraight_82 fg_X11_186_4 (by decide) (sx_25 hT) ?_
            refine pv_lneg (pc := 85) dX11_signOfStraight_85 ?_
            refine pv_lcmp_ne (pc := 86) (tgt := 106) dX11_signOfStraight_86 dX11_signOfStraight_87 (by decide) (fun h86_1 => ?_) (fun h86_1 => ?_)
            · refine pv_iinc_1 (pc := 106) (v := (-3)) dX11_signOfStraight_106 (by decide) (by decide) rfl ?_
              refine pv_goto (pc := 109) (tgt := 2) dX11_signOfStraight_109 (by decide) ?_
              refine pv_iload_1 (pc := 2) dX11_signOfStraight_2 ?_
              refine pv_iconst (pc := 3) (v := (-1)) dX11_signOfStraight_3 (by decide) ?_
              refine pv_icmp_lt (pc := 4) (tgt := 112) dX11_signOfStraight_4 (by decide) (fun _ => ?_) (fun q => absurd q (by decide))
              refine pv_iconst (pc := 112) (v := 0) dX11_signOfStraight_112 (by decide) ?_
              refine pv_iret (pc := 113) dX11_signOfStraight_113 rfl rfl ?_
              exact ⟨⟨_, rfl, Or.inr (Or.inr rfl)⟩, rfl, rfl, rfl, rfl⟩
            · refine pv_lload_4 (pc := 90) dX11_signOfStraight_90 ?_
              refine pv_aload_0 (pc := 92) dX11_signOfStraight_92 ?_
              refine pv_getR (pc := 93) dX11_signOfStraight_93 fg_X11_38_11 rfl (by decide) (sx_16 hT) (rx_16_6 hR) ?_
              refine pv_getL (pc := 96) dX11_signOfStraight_96 fg_X11_190_4 (by decide) (sx_25 hT) ?_
              refine pv_lneg (pc := 99) dX11_signOfStraight_99 ?_
              refine pv_lcmp_ne (pc := 100) (tgt := 106) dX11_signOfStraight_100 dX11_signOfStraight_101 (by decide) (fun h100_1 => ?_) (fun h100_1 => ?_)
              · refine pv_iinc_1 (pc := 106) (v := (-3)) dX11_signOfStraight_106 (by decide) (by decide) rfl ?_
                refine pv_goto (pc := 109) (tgt := 2) dX11_signOfStraight_109 (by decide) ?_
                refine pv_iload_1 (pc := 2) dX11_signOfStraight_2 ?_
                refine pv_iconst (pc := 3) (v := (-1)) dX11_signOfStraight_3 (by decide) ?_
                refine pv_icmp_lt (pc := 4) (tgt := 112) dX11_signOfStraight_4 (by decide) (fun _ => ?_) (fun q => absurd q (by decide))
                refine pv_iconst (pc := 112) (v := 0) dX11_signOfStraight_112 (by decide) ?_
                refine pv_iret (pc := 113) dX11_signOfStraight_113 rfl rfl ?_
                exact ⟨⟨_, rfl, Or.inr (Or.inr rfl)⟩, rfl, rfl, rfl, rfl⟩
              · refine pv_iload_1 (pc := 104) dX11_signOfStraight_104 ?_
                refine pv_iret (pc := 105) dX11_signOfStraight_105 rfl rfl ?_
                refine ⟨⟨_, rfl, ?_⟩, rfl, rfl, rfl, rfl⟩
                refine Or.inr (Or.inl ⟨rfl, ?_⟩)
                unfold x_ac x_acc
                first
                  | exact Or.inl ⟨by first | exact h60_1 | exact h60 | exact Classical.not_not.mp h60_1 | exact Classical.not_not.mp h60, by first | exact h73_1 | exact h73 | exact Classical.not_not.mp h73_1 | exact Classical.not_not.mp h73⟩
                  | exact Or.inr ⟨by first | exact h86_1 | exact h86 | exact Classical.not_not.mp h86_1 | exact Classical.not_not.mp h86, by first | exact h100_1 | exact h100 | exact Classical.not_not.mp h100_1 | exact Classical.not_not.mp h100⟩
      · refine pv_iload_1 (pc := 104) dX11_signOfStraight_104 ?_
        refine pv_iret (pc := 105) dX11_signOfStraight_105 rfl rfl ?_
        refine ⟨⟨_, rfl, ?_⟩, rfl, rfl, rfl, rfl⟩
        refine Or.inl ⟨rfl, ?_⟩
        unfold x_ac x_acc
        first
          | exact Or.inl ⟨by first | exact h60 | exact Classical.not_not.mp h60, by first | exact h73 | exact Classical.not_not.mp h73⟩
          | exact Or.inr ⟨by first | exact h86 | exact Classical.not_not.mp h86, by first | exact h100 | exact Classical.not_not.mp h100⟩
  · refine pv_lload_4 (pc := 64) dX11_signOfStraight_64 ?_
    refine pv_aload_0 (pc := 66) dX11_signOfStraight_66 ?_
    refine pv_getR (pc := 67) dX11_signOfStraight_67 fg_X11_38_11 rfl (by decide) (sx_16 hT) (rx_16_6 hR) ?_
    refine pv_getL (pc := 70) dX11_signOfStraight_70 fg_X11_190_4 (by decide) (sx_25 hT) ?_
    refine pv_lcmp_eq (pc := 73) (tgt := 104) dX11_signOfStraight_73 dX11_signOfStraight_74 (by decide) (fun h73 => ?_) (fun h73 => ?_)
    · refine pv_iload_1 (pc := 104) dX11_signOfStraight_104 ?_
      refine pv_iret (pc := 105) dX11_signOfStraight_105 rfl rfl ?_
      refine ⟨⟨_, rfl, ?_⟩, rfl, rfl, rfl, rfl⟩
      refine Or.inl ⟨rfl, ?_⟩
      unfold x_ac x_acc
      first
        | exact Or.inl ⟨by first | exact h60 | exact Classical.not_not.mp h60, by first | exact h73 | exact Classical.not_not.mp h73⟩
        | exact Or.inr ⟨by first | exact h86 | exact Classical.not_not.mp h86, by first | exact h100 | exact Classical.not_not.mp h100⟩
    · refine pv_lload_2 (pc := 77) dX11_signOfStraight_77 ?_
      refine pv_aload_0 (pc := 78) dX11_signOfStraight_78 ?_
      refine pv_getR (pc := 79) dX11_signOfStraight_79 fg_X11_38_11 rfl (by decide) (sx_16 hT) (rx_16_6 hR) ?_
      refine pv_getL (pc := 82) dX11_signOfStraight_82 fg_X11_186_4 (by decide) (sx_25 hT) ?_
      refine pv_lneg (pc := 85) dX11_signOfStraight_85 ?_
      refine pv_lcmp_ne (pc := 86) (tgt := 106) dX11_signOfStraight_86 dX11_signOfStraight_87 (by decide) (fun h86 => ?_) (fun h86 => ?_)
      · refine pv_iinc_1 (pc := 106) (v := (-1)) dX11_signOfStraight_106 (by decide) (by decide) rfl ?_
        refine pv_goto (pc := 109) (tgt := 2) dX11_signOfStraight_109 (by decide) ?_
        refine pv_iload_1 (pc := 2) dX11_signOfStraight_2 ?_
        refine pv_iconst (pc := 3) (v := (-1)) dX11_signOfStraight_3 (by decide) ?_
        refine pv_icmp_lt (pc := 4) (tgt := 112) dX11_signOfStraight_4 (by decide) (fun q => absurd q (by decide)) (fun _ => ?_)
        refine pv_aload_0 (pc := 7) dX11_signOfStraight_7 ?_
        refine pv_getR (pc := 8) dX11_signOfStraight_8 fg_X11_31_11 rfl (by decide) (sx_16 hT) (rx_16_4 hR) ?_
        refine pv_getL (pc := 11) dX11_signOfStraight_11 fg_X11_186_4 (by decide) (sx_21 hT) ?_
        refine pv_iload_1 (pc := 14) dX11_signOfStraight_14 ?_
        refine pv_i2l (pc := 15) dX11_signOfStraight_15 ?_
        refine pv_aload_0 (pc := 16) dX11_signOfStraight_16 ?_
        refine pv_getR (pc := 17) dX11_signOfStraight_17 fg_X11_41_11 rfl (by decide) (sx_16 hT) (rx_16_7 hR) ?_
        refine pv_getL (pc := 20) dX11_signOfStraight_20 fg_X11_186_4 (by decide) (sx_27 hT) ?_
        refine pv_lmul (pc := 23) dX11_signOfStraight_23 ?_
        refine pv_iconst (pc := 24) (v := 2) dX11_signOfStraight_24 (by decide) ?_
        refine pv_callS1 (pc := 25) dX11_signOfStraight_25 mgX11_straightOn ls_X11_408 (by omega) (c_X11_straightOn ) rfl rfl (by decide) ?_
        refine pv_lstore_2 (pc := 28) dX11_signOfStraight_28 (by decide) rfl ?_
        refine pv_aload_0 (pc := 29) dX11_signOfStraight_29 ?_
        refine pv_getR (pc := 30) dX11_signOfStraight_30 fg_X11_31_11 rfl (by decide) (sx_16 hT) (rx_16_4 hR) ?_
        refine pv_getL (pc := 33) dX11_signOfStraight_33 fg_X11_190_4 (by decide) (sx_21 hT) ?_
        refine pv_iload_1 (pc := 36) dX11_signOfStraight_36 ?_
        refine pv_i2l (pc := 37) dX11_signOfStraight_37 ?_
        refine pv_aload_0 (pc := 38) dX11_signOfStraight_38 ?_
        refine pv_getR (pc := 39) dX11_signOfStraight_39 fg_X11_41_11 rfl (by decide) (sx_16 hT) (rx_16_7 hR) ?_
        refine pv_getL (pc := 42) dX11_signOfStraight_42 fg_X11_190_4 (by decide) (sx_27 hT) ?_
        refine pv_lmul (pc := 45) dX11_signOfStraight_45 ?_
        refine pv_iconst (pc := 46) (v := 2) dX11_signOfStraight_46 (by decide) ?_
        refine pv_callS1 (pc := 47) dX11_signOfStraight_47 mgX11_straightOn ls_X11_408 (by omega) (c_X11_straightOn ) rfl rfl (by decide) ?_
        refine pv_lstore_4 (pc := 50) dX11_signOfStraight_50 (by decide) rfl ?_
        refine pv_lload_2 (pc := 52) dX11_signOfStraight_52 ?_
        refine pv_aload_0 (pc := 53) dX11_signOfStraight_53 ?_
        refine pv_getR (pc := 54) dX11_signOfStraight_54 fg_X11_38_11 rfl (by decide) (sx_16 hT) (rx_16_6 hR) ?_
        refine pv_getL (pc := 57) dX11_signOfStraight_57 fg_X11_186_4 (by decide) (sx_25 hT) ?_
        refine pv_lcmp_ne (pc := 60) (tgt := 77) dX11_signOfStraight_60 dX11_signOfStraight_61 (by decide) (fun h60_1 => ?_) (fun h60_1 => ?_)
        · refine pv_lload_2 (pc := 77) dX11_signOfStraight_77 ?_
          refine pv_aload_0 (pc := 78) dX11_signOfStraight_78 ?_
          refine pv_getR (pc := 79) dX11_signOfStraight_79 fg_X11_38_11 rfl (by decide) (sx_16 hT) (rx_16_6 hR) ?_
          refine pv_getL (pc := 82) dX11_signOfStraight_82 fg_X11_186_4 (by decide) (sx_25 hT) ?_
          refine pv_lneg (pc := 85) dX11_signOfStraight_85 ?_
          refine pv_lcmp_ne (pc := 86) (tgt := 106) dX11_signOfStraight_86 dX11_signOfStraight_87 (by decide) (fun h86_1 => ?_) (fun h86_1 => ?_)
          · refine pv_iinc_1 (pc := 106) (v := (-3)) dX11_signOfStraight_106 (by decide) (by decide) rfl ?_
            refine pv_goto (pc := 109) (tgt := 2) dX11_signOfStraight_109 (by decide) ?_
            refine pv_iload_1 (pc := 2) dX11_signOfStraight_2 ?_
            refine pv_iconst (pc := 3) (v := (-1)) dX11_signOfStraight_3 (by decide) ?_
            refine pv_icmp_lt (pc := 4) (tgt := 112) dX11_signOfStraight_4 (by decide) (fun _ => ?_) (fun q => absurd q (by decide))
            refine pv_iconst (pc := 112) (v := 0) dX11_signOfStraight_112 (by decide) ?_
            refine pv_iret (pc := 113) dX11_signOfStraight_113 rfl rfl ?_
            exact ⟨⟨_, rfl, Or.inr (Or.inr rfl)⟩, rfl, rfl, rfl, rfl⟩
          · refine pv_lload_4 (pc := 90) dX11_signOfStraight_90 ?_
            refine pv_aload_0 (pc := 92) dX11_signOfStraight_92 ?_
            refine pv_getR (pc := 93) dX11_signOfStraight_93 fg_X11_38_11 rfl (by decide) (sx_16 hT) (rx_16_6 hR) ?_
            refine pv_getL (pc := 96) dX11_signOfStraight_96 fg_X11_190_4 (by decide) (sx_25 hT) ?_
            refine pv_lneg (pc := 99) dX11_signOfStraight_99 ?_
            refine pv_lcmp_ne (pc := 100) (tgt := 106) dX11_signOfStraight_100 dX11_signOfStraight_101 (by decide) (fun h100 => ?_) (fun h100 => ?_)
            · refine pv_iinc_1 (pc := 106) (v := (-3)) dX11_signOfStraight_106 (by decide) (by decide) rfl ?_
              refine pv_goto (pc := 109) (tgt := 2) dX11_signOfStraight_109 (by decide) ?_
              refine pv_iload_1 (pc := 2) dX11_signOfStraight_2 ?_
              refine pv_iconst (pc := 3) (v := (-1)) dX11_signOfStraight_3 (by decide) ?_
              refine pv_icmp_lt (pc := 4) (tgt := 112) dX11_signOfStraight_4 (by decide) (fun _ => ?_) (fun q => absurd q (by decide))
              refine pv_iconst (pc := 112) (v := 0) dX11_signOfStraight_112 (by decide) ?_
              refine pv_iret (pc := 113) dX11_signOfStraight_113 rfl rfl ?_
              exact ⟨⟨_, rfl, Or.inr (Or.inr rfl)⟩, rfl, rfl, rfl, rfl⟩
            · refine pv_iload_1 (pc := 104) dX11_signOfStraight_104 ?_
              refine pv_iret (pc := 105) dX11_signOfStraight_105 rfl rfl ?_
              refine ⟨⟨_, rfl, ?_⟩, rfl, rfl, rfl, rfl⟩
              refine Or.inr (Or.inl ⟨rfl, ?_⟩)
              unfold x_ac x_acc
              first
                | exact Or.inl ⟨by first | exact h60_1 | exact h60 | exact Classical.not_not.mp h60_1 | exact Classical.not_not.mp h60, by first | exact h73_1 | exact h73 | exact Classical.not_not.mp h73_1 | exact Classical.not_not.mp h73⟩
                | exact Or.inr ⟨by first | exact h86_1 | exact h86 | exact Classical.not_not.mp h86_1 | exact Classical.not_not.mp h86, by first | exact h100_1 | exact h100 | exact Classical.not_not.mp h100_1 | exact Classical.not_not.mp h100⟩
        · refine pv_lload_4 (pc := 64) dX11_signOfStraight_64 ?_
          refine pv_aload_0 (pc := 66) dX11_signOfStraight_66 ?_
          refine pv_getR (pc := 67) dX11_signOfStraight_67 fg_X11_38_11 rfl (by decide) (sx_16 hT) (rx_16_6 hR) ?_
          refine pv_getL (pc := 70) dX11_signOfStraight_70 fg_X11_190_4 (by decide) (sx_25 hT) ?_
          refine pv_lcmp_eq (pc := 73) (tgt := 104) dX11_signOfStraight_73 dX11_signOfStraight_74 (by decide) (fun h73_1 => ?_) (fun h73_1 => ?_)
          · refine pv_iload_1 (pc := 104) dX11_signOfStraight_104 ?_
            refine pv_iret (pc := 105) dX11_signOfStraight_105 rfl rfl ?_
            refine ⟨⟨_, rfl, ?_⟩, rfl, rfl, rfl, rfl⟩
            refine Or.inr (Or.inl ⟨rfl, ?_⟩)
            unfold x_ac x_acc
            first
              | exact Or.inl ⟨by first | exact h60_1 | exact h60 | exact Classical.not_not.mp h60_1 | exact Classical.not_not.mp h60, by first | exact h73_1 | exact h73 | exact Classical.not_not.mp h73_1 | exact Classical.not_not.mp h73⟩
              | exact Or.inr ⟨by first | exact h86_1 | exact h86 | exact Classical.not_not.mp h86_1 | exact Classical.not_not.mp h86, by first | exact h100_1 | exact h100 | exact Classical.not_not.mp h100_1 | exact Classical.not_not.mp h100⟩
          · refine pv_lload_2 (pc := 77) dX11_signOfStraight_77 ?_
            refine pv_aload_0 (pc := 78) dX11_signOfStraight_78 ?_
            refine pv_getR (pc := 79) dX11_signOfStraight_79 fg_X11_38_11 rfl (by decide) (sx_16 hT) (rx_16_6 hR) ?_
            refine pv_getL (pc := 82) dX11_signOfStraight_82 fg_X11_186_4 (by decide) (sx_25 hT) ?_
            refine pv_lneg (pc := 85) dX11_signOfStraight_85 ?_
            refine pv_lcmp_ne (pc := 86) (tgt := 106) dX11_signOfStraight_86 dX11_signOfStraight_87 (by decide) (fun h86_1 => ?_) (fun h86_1 => ?_)
            · refine pv_iinc_1 (pc := 106) (v := (-3)) dX11_signOfStraight_106 (by decide) (by decide) rfl ?_
              refine pv_goto (pc := 109) (tgt := 2) dX11_signOfStraight_109 (by decide) ?_
              refine pv_iload_1 (pc := 2) dX11_signOfStraight_2 ?_
              refine pv_iconst (pc := 3) (v := (-1)) dX11_signOfStraight_3 (by decide) ?_
              refine pv_icmp_lt (pc := 4) (tgt := 112) dX11_signOfStraight_4 (by decide) (fun _ => ?_) (fun q => absurd q (by decide))
              refine pv_iconst (pc := 112) (v := 0) dX11_signOfStraight_112 (by decide) ?_
              refine pv_iret (pc := 113) dX11_signOfStraight_113 rfl rfl ?_
              exact ⟨⟨_, rfl, Or.inr (Or.inr rfl)⟩, rfl, rfl, rfl, rfl⟩
            · refine pv_lload_4 (pc := 90) dX11_signOfStraight_90 ?_
              refine pv_aload_0 (pc := 92) dX11_signOfStraight_92 ?_
              refine pv_getR (pc := 93) dX11_signOfStraight_93 fg_X11_38_11 rfl (by decide) (sx_16 hT) (rx_16_6 hR) ?_
              refine pv_getL (pc := 96) dX11_signOfStraight_96 fg_X11_190_4 (by decide) (sx_25 hT) ?_
              refine pv_lneg (pc := 99) dX11_signOfStraight_99 ?_
              refine pv_lcmp_ne (pc := 100) (tgt := 106) dX11_signOfStraight_100 dX11_signOfStraight_101 (by decide) (fun h100 => ?_) (fun h100 => ?_)
              · refine pv_iinc_1 (pc := 106) (v := (-3)) dX11_signOfStraight_106 (by decide) (by decide) rfl ?_
                refine pv_goto (pc := 109) (tgt := 2) dX11_signOfStraight_109 (by decide) ?_
                refine pv_iload_1 (pc := 2) dX11_signOfStraight_2 ?_
                refine pv_iconst (pc := 3) (v := (-1)) dX11_signOfStraight_3 (by decide) ?_
                refine pv_icmp_lt (pc := 4) (tgt := 112) dX11_signOfStraight_4 (by decide) (fun _ => ?_) (fun q => absurd q (by decide))
                refine pv_iconst (pc := 112) (v := 0) dX11_signOfStraight_112 (by decide) ?_
                refine pv_iret (pc := 113) dX11_signOfStraight_113 rfl rfl ?_
                exact ⟨⟨_, rfl, Or.inr (Or.inr rfl)⟩, rfl, rfl, rfl, rfl⟩
              · refine pv_iload_1 (pc := 104) dX11_signOfStraight_104 ?_
                refine pv_iret (pc := 105) dX11_signOfStraight_105 rfl rfl ?_
                refine ⟨⟨_, rfl, ?_⟩, rfl, rfl, rfl, rfl⟩
                refine Or.inr (Or.inl ⟨rfl, ?_⟩)
                unfold x_ac x_acc
                first
                  | exact Or.inl ⟨by first | exact h60_1 | exact h60 | exact Classical.not_not.mp h60_1 | exact Classical.not_not.mp h60, by first | exact h73_1 | exact h73 | exact Classical.not_not.mp h73_1 | exact Classical.not_not.mp h73⟩
                  | exact Or.inr ⟨by first | exact h86_1 | exact h86 | exact Classical.not_not.mp h86_1 | exact Classical.not_not.mp h86, by first | exact h100_1 | exact h100 | exact Classical.not_not.mp h100_1 | exact Classical.not_not.mp h100⟩
      · refine pv_lload_4 (pc := 90) dX11_signOfStraight_90 ?_
        refine pv_aload_0 (pc := 92) dX11_signOfStraight_92 ?_
        refine pv_getR (pc := 93) dX11_signOfStraight_93 fg_X11_38_11 rfl (by decide) (sx_16 hT) (rx_16_6 hR) ?_
        refine pv_getL (pc := 96) dX11_signOfStraight_96 fg_X11_190_4 (by decide) (sx_25 hT) ?_
        refine pv_lneg (pc := 99) dX11_signOfStraight_99 ?_
        refine pv_lcmp_ne (pc := 100) (tgt := 106) dX11_signOfStraight_100 dX11_signOfStraight_101 (by decide) (fun h100 => ?_) (fun h100 => ?_)
        · refine pv_iinc_1 (pc := 106) (v := (-1)) dX11_signOfStraight_106 (by decide) (by decide) rfl ?_
          refine pv_goto (pc := 109) (tgt := 2) dX11_signOfStraight_109 (by decide) ?_
          refine pv_iload_1 (pc := 2) dX11_signOfStraight_2 ?_
          refine pv_iconst (pc := 3) (v := (-1)) dX11_signOfStraight_3 (by decide) ?_
          refine pv_icmp_lt (pc := 4) (tgt := 112) dX11_signOfStraight_4 (by decide) (fun q => absurd q (by decide)) (fun _ => ?_)
          refine pv_aload_0 (pc := 7) dX11_signOfStraight_7 ?_
          refine pv_getR (pc := 8) dX11_signOfStraight_8 fg_X11_31_11 rfl (by decide) (sx_16 hT) (rx_16_4 hR) ?_
          refine pv_getL (pc := 11) dX11_signOfStraight_11 fg_X11_186_4 (by decide) (sx_21 hT) ?_
          refine pv_iload_1 (pc := 14) dX11_signOfStraight_14 ?_
          refine pv_i2l (pc := 15) dX11_signOfStraight_15 ?_
          refine pv_aload_0 (pc := 16) dX11_signOfStraight_16 ?_
          refine pv_getR (pc := 17) dX11_signOfStraight_17 fg_X11_41_11 rfl (by decide) (sx_16 hT) (rx_16_7 hR) ?_
          refine pv_getL (pc := 20) dX11_signOfStraight_20 fg_X11_186_4 (by decide) (sx_27 hT) ?_
          refine pv_lmul (pc := 23) dX11_signOfStraight_23 ?_
          refine pv_iconst (pc := 24) (v := 2) dX11_signOfStraight_24 (by decide) ?_
          refine pv_callS1 (pc := 25) dX11_signOfStraight_25 mgX11_straightOn ls_X11_408 (by omega) (c_X11_straightOn ) rfl rfl (by decide) ?_
          refine pv_lstore_2 (pc := 28) dX11_signOfStraight_28 (by decide) rfl ?_
          refine pv_aload_0 (pc := 29) dX11_signOfStraight_29 ?_
          refine pv_getR (pc := 30) dX11_signOfStraight_30 fg_X11_31_11 rfl (by decide) (sx_16 hT) (rx_16_4 hR) ?_
          refine pv_getL (pc := 33) dX11_signOfStraight_33 fg_X11_190_4 (by decide) (sx_21 hT) ?_
          refine pv_iload_1 (pc := 36) dX11_signOfStraight_36 ?_
          refine pv_i2l (pc := 37) dX11_signOfStraight_37 ?_
          refine pv_aload_0 (pc := 38) dX11_signOfStraight_38 ?_
          refine pv_getR (pc := 39) dX11_signOfStraight_39 fg_X11_41_11 rfl (by decide) (sx_16 hT) (rx_16_7 hR) ?_
          refine pv_getL (pc := 42) dX11_signOfStraight_42 fg_X11_190_4 (by decide) (sx_27 hT) ?_
          refine pv_lmul (pc := 45) dX11_signOfStraight_45 ?_
          refine pv_iconst (pc := 46) (v := 2) dX11_signOfStraight_46 (by decide) ?_
          refine pv_callS1 (pc := 47) dX11_signOfStraight_47 mgX11_straightOn ls_X11_408 (by omega) (c_X11_straightOn ) rfl rfl (by decide) ?_
          refine pv_lstore_4 (pc := 50) dX11_signOfStraight_50 (by decide) rfl ?_
          refine pv_lload_2 (pc := 52) dX11_signOfStraight_52 ?_
          refine pv_aload_0 (pc := 53) dX11_signOfStraight_53 ?_
          refine pv_getR (pc := 54) dX11_signOfStraight_54 fg_X11_38_11 rfl (by decide) (sx_16 hT) (rx_16_6 hR) ?_
          refine pv_getL (pc := 57) dX11_signOfStraight_57 fg_X11_186_4 (by decide) (sx_25 hT) ?_
          refine pv_lcmp_ne (pc := 60) (tgt := 77) dX11_signOfStraight_60 dX11_signOfStraight_61 (by decide) (fun h60_1 => ?_) (fun h60_1 => ?_)
          · refine pv_lload_2 (pc := 77) dX11_signOfStraight_77 ?_
            refine pv_aload_0 (pc := 78) dX11_signOfStraight_78 ?_
            refine pv_getR (pc := 79) dX11_signOfStraight_79 fg_X11_38_11 rfl (by decide) (sx_16 hT) (rx_16_6 hR) ?_
            refine pv_getL (pc := 82) dX11_signOfStraight_82 fg_X11_186_4 (by decide) (sx_25 hT) ?_
            refine pv_lneg (pc := 85) dX11_signOfStraight_85 ?_
            refine pv_lcmp_ne (pc := 86) (tgt := 106) dX11_signOfStraight_86 dX11_signOfStraight_87 (by decide) (fun h86_1 => ?_) (fun h86_1 => ?_)
            · refine pv_iinc_1 (pc := 106) (v := (-3)) dX11_signOfStraight_106 (by decide) (by decide) rfl ?_
              refine pv_goto (pc := 109) (tgt := 2) dX11_signOfStraight_109 (by decide) ?_
              refine pv_iload_1 (pc := 2) dX11_signOfStraight_2 ?_
              refine pv_iconst (pc := 3) (v := (-1)) dX11_signOfStraight_3 (by decide) ?_
              refine pv_icmp_lt (pc := 4) (tgt := 112) dX11_signOfStraight_4 (by decide) (fun _ => ?_) (fun q => absurd q (by decide))
              refine pv_iconst (pc := 112) (v := 0) dX11_signOfStraight_112 (by decide) ?_
              refine pv_iret (pc := 113) dX11_signOfStraight_113 rfl rfl ?_
              exact ⟨⟨_, rfl, Or.inr (Or.inr rfl)⟩, rfl, rfl, rfl, rfl⟩
            · refine pv_lload_4 (pc := 90) dX11_signOfStraight_90 ?_
              refine pv_aload_0 (pc := 92) dX11_signOfStraight_92 ?_
              refine pv_getR (pc := 93) dX11_signOfStraight_93 fg_X11_38_11 rfl (by decide) (sx_16 hT) (rx_16_6 hR) ?_
              refine pv_getL (pc := 96) dX11_signOfStraight_96 fg_X11_190_4 (by decide) (sx_25 hT) ?_
              refine pv_lneg (pc := 99) dX11_signOfStraight_99 ?_
              refine pv_lcmp_ne (pc := 100) (tgt := 106) dX11_signOfStraight_100 dX11_signOfStraight_101 (by decide) (fun h100_1 => ?_) (fun h100_1 => ?_)
              · refine pv_iinc_1 (pc := 106) (v := (-3)) dX11_signOfStraight_106 (by decide) (by decide) rfl ?_
                refine pv_goto (pc := 109) (tgt := 2) dX11_signOfStraight_109 (by decide) ?_
                refine pv_iload_1 (pc := 2) dX11_signOfStraight_2 ?_
                refine pv_iconst (pc := 3) (v := (-1)) dX11_signOfStraight_3 (by decide) ?_
                refine pv_icmp_lt (pc := 4) (tgt := 112) dX11_signOfStraight_4 (by decide) (fun _ => ?_) (fun q => absurd q (by decide))
                refine pv_iconst (pc := 112) (v := 0) dX11_signOfStraight_112 (by decide) ?_
                refine pv_iret (pc := 113) dX11_signOfStraight_113 rfl rfl ?_
                exact ⟨⟨_, rfl, Or.inr (Or.inr rfl)⟩, rfl, rfl, rfl, rfl⟩
              · refine pv_iload_1 (pc := 104) dX11_signOfStraight_104 ?_
                refine pv_iret (pc := 105) dX11_signOfStraight_105 rfl rfl ?_
                refine ⟨⟨_, rfl, ?_⟩, rfl, rfl, rfl, rfl⟩
                refine Or.inr (Or.inl ⟨rfl, ?_⟩)
                unfold x_ac x_acc
                first
                  | exact Or.inl ⟨by first | exact h60_1 | exact h60 | exact Classical.not_not.mp h60_1 | exact Classical.not_not.mp h60, by first | exact h73_1 | exact h73 | exact Classical.not_not.mp h73_1 | exact Classical.not_not.mp h73⟩
                  | exact Or.inr ⟨by first | exact h86_1 | exact h86 | exact Classical.not_not.mp h86_1 | exact Classical.not_not.mp h86, by first | exact h100_1 | exact h100 | exact Classical.not_not.mp h100_1 | exact Classical.not_not.mp h100⟩
          · refine pv_lload_4 (pc := 64) dX11_signOfStraight_64 ?_
            refine pv_aload_0 (pc := 66) dX11_signOfStraight_66 ?_
            refine pv_getR (pc := 67) dX11_signOfStraight_67 fg_X11_38_11 rfl (by decide) (sx_16 hT) (rx_16_6 hR) ?_
            refine pv_getL (pc := 70) dX11_signOfStraight_70 fg_X11_190_4 (by decide) (sx_25 hT) ?_
            refine pv_lcmp_eq (pc := 73) (tgt := 104) dX11_signOfStraight_73 dX11_signOfStraight_74 (by decide) (fun h73_1 => ?_) (fun h73_1 => ?_)
            · refine pv_iload_1 (pc := 104) dX11_signOfStraight_104 ?_
              refine pv_iret (pc := 105) dX11_signOfStraight_105 rfl rfl ?_
              refine ⟨⟨_, rfl, ?_⟩, rfl, rfl, rfl, rfl⟩
              refine Or.inr (Or.inl ⟨rfl, ?_⟩)
              unfold x_ac x_acc
              first
                | exact Or.inl ⟨by first | exact h60_1 | exact h60 | exact Classical.not_not.mp h60_1 | exact Classical.not_not.mp h60, by first | exact h73_1 | exact h73 | exact Classical.not_not.mp h73_1 | exact Classical.not_not.mp h73⟩
                | exact Or.inr ⟨by first | exact h86_1 | exact h86 | exact Classical.not_not.mp h86_1 | exact Classical.not_not.mp h86, by first | exact h100_1 | exact h100 | exact Classical.not_not.mp h100_1 | exact Classical.not_not.mp h100⟩
            · refine pv_lload_2 (pc := 77) dX11_signOfStraight_77 ?_
              refine pv_aload_0 (pc := 78) dX11_signOfStraight_78 ?_
              refine pv_getR (pc := 79) dX11_signOfStraight_79 fg_X11_38_11 rfl (by decide) (sx_16 hT) (rx_16_6 hR) ?_
              refine pv_getL (pc := 82) dX11_signOfStraight_82 fg_X11_186_4 (by decide) (sx_25 hT) ?_
              refine pv_lneg (pc := 85) dX11_signOfStraight_85 ?_
              refine pv_lcmp_ne (pc := 86) (tgt := 106) dX11_signOfStraight_86 dX11_signOfStraight_87 (by decide) (fun h86_1 => ?_) (fun h86_1 => ?_)
              · refine pv_iinc_1 (pc := 106) (v := (-3)) dX11_signOfStraight_106 (by decide) (by decide) rfl ?_
                refine pv_goto (pc := 109) (tgt := 2) dX11_signOfStraight_109 (by decide) ?_
                refine pv_iload_1 (pc := 2) dX11_signOfStraight_2 ?_
                refine pv_iconst (pc := 3) (v := (-1)) dX11_signOfStraight_3 (by decide) ?_
                refine pv_icmp_lt (pc := 4) (tgt := 112) dX11_signOfStraight_4 (by decide) (fun _ => ?_) (fun q => absurd q (by decide))
                refine pv_iconst (pc := 112) (v := 0) dX11_signOfStraight_112 (by decide) ?_
                refine pv_iret (pc := 113) dX11_signOfStraight_113 rfl rfl ?_
                exact ⟨⟨_, rfl, Or.inr (Or.inr rfl)⟩, rfl, rfl, rfl, rfl⟩
              · refine pv_lload_4 (pc := 90) dX11_signOfStraight_90 ?_
                refine pv_aload_0 (pc := 92) dX11_signOfStraight_92 ?_
                refine pv_getR (pc := 93) dX11_signOfStraight_93 fg_X11_38_11 rfl (by decide) (sx_16 hT) (rx_16_6 hR) ?_
                refine pv_getL (pc := 96) dX11_signOfStraight_96 fg_X11_190_4 (by decide) (sx_25 hT) ?_
                refine pv_lneg (pc := 99) dX11_signOfStraight_99 ?_
                refine pv_lcmp_ne (pc := 100) (tgt := 106) dX11_signOfStraight_100 dX11_signOfStraight_101 (by decide) (fun h100_1 => ?_) (fun h100_1 => ?_)
                · refine pv_iinc_1 (pc := 106) (v := (-3)) dX11_signOfStraight_106 (by decide) (by decide) rfl ?_
                  refine pv_goto (pc := 109) (tgt := 2) dX11_signOfStraight_109 (by decide) ?_
                  refine pv_iload_1 (pc := 2) dX11_signOfStraight_2 ?_
                  refine pv_iconst (pc := 3) (v := (-1)) dX11_signOfStraight_3 (by decide) ?_
                  refine pv_icmp_lt (pc := 4) (tgt := 112) dX11_signOfStraight_4 (by decide) (fun _ => ?_) (fun q => absurd q (by decide))
                  refine pv_iconst (pc := 112) (v := 0) dX11_signOfStraight_112 (by decide) ?_
                  refine pv_iret (pc := 113) dX11_signOfStraight_113 rfl rfl ?_
                  exact ⟨⟨_, rfl, Or.inr (Or.inr rfl)⟩, rfl, rfl, rfl, rfl⟩
                · refine pv_iload_1 (pc := 104) dX11_signOfStraight_104 ?_
                  refine pv_iret (pc := 105) dX11_signOfStraight_105 rfl rfl ?_
                  refine ⟨⟨_, rfl, ?_⟩, rfl, rfl, rfl, rfl⟩
                  refine Or.inr (Or.inl ⟨rfl, ?_⟩)
                  unfold x_ac x_acc
                  first
                    | exact Or.inl ⟨by first | exact h60_1 | exact h60 | exact Classical.not_not.mp h60_1 | exact Classical.not_not.mp h60, by first | exact h73_1 | exact h73 | exact Classical.not_not.mp h73_1 | exact Classical.not_not.mp h73⟩
                    | exact Or.inr ⟨by first | exact h86_1 | exact h86 | exact Classical.not_not.mp h86_1 | exact Classical.not_not.mp h86, by first | exact h100_1 | exact h100 | exact Classical.not_not.mp h100_1 | exact Classical.not_not.mp h100⟩
        · refine pv_iload_1 (pc := 104) dX11_signOfStraight_104 ?_
          refine pv_iret (pc := 105) dX11_signOfStraight_105 rfl rfl ?_
          refine ⟨⟨_, rfl, ?_⟩, rfl, rfl, rfl, rfl⟩
          refine Or.inl ⟨rfl, ?_⟩
          unfold x_ac x_acc
          first
            | exact Or.inl ⟨by first | exact h60 | exact Classical.not_not.mp h60, by first | exact h73 | exact Classical.not_not.mp h73⟩
            | exact Or.inr ⟨by first | exact h86 | exact Classical.not_not.mp h86, by first | exact h100 | exact Classical.not_not.mp h100⟩

set_option maxRecDepth 100000 in
set_option maxHeartbeats 4000000 in
theorem c_X4_becomeEither {G : pv_G} {d : Nat} {p q : Int64} {t : pv_T} {I : pv_I} {L : pv_L} {Rf : pv_R} (hT : sh_ok t) (hd : 1 ≤ d) : pv_Mt G mX4_becomeEither d 0 0 [.ref 25, .long p, .long q] t I L Rf (pv_is none t I (pv_u (pv_u L 25 1 (if x_oth p q = true then -p else p)) 25 2 (if x_oth p q = true then -q else q)) Rf) := by
  refine pv_mt mgX4_becomeEither.2.2.2.2.2 [.ref 25, .long p, .retAddr 0, .long q, .retAddr 0, .retAddr 0] rfl (Nat.le_of_ble_eq_true rfl) ?_
  refine pv_lload_3 (pc := 0) dX4_becomeEither_0 ?_
  refine pv_lconst (pc := 1) (v := 0) dX4_becomeEither_1 (by decide) ?_
  refine pv_lcmp_lt (pc := 2) (tgt := 18) dX4_becomeEither_2 dX4_becomeEither_3 (by decide) (fun h2 => ?_) (fun h2 => ?_)
  · refine pv_iconst (pc := 18) (v := 1) dX4_becomeEither_18 (by decide) ?_
    refine pv_goto (pc := 19) (tgt := 23) dX4_becomeEither_19 (by decide) ?_
    refine pv_istore_5 (pc := 23) dX4_becomeEither_23 (by decide) rfl ?_
    refine pv_aload_0 (pc := 25) dX4_becomeEither_25 ?_
    refine pv_iload_5 (pc := 26) dX4_becomeEither_26 ?_
    refine pv_if_eq (pc := 28) (tgt := 36) dX4_becomeEither_28 (by decide) (fun q => absurd q (by decide)) (fun _ => ?_)
    refine pv_lload_1 (pc := 31) dX4_becomeEither_31 ?_
    refine pv_lneg (pc := 32) dX4_becomeEither_32 ?_
    refine pv_goto (pc := 33) (tgt := 37) dX4_becomeEither_33 (by decide) ?_
    refine pv_iload_5 (pc := 37) dX4_becomeEither_37 ?_
    refine pv_if_eq (pc := 39) (tgt := 47) dX4_becomeEither_39 (by decide) (fun q => absurd q (by decide)) (fun _ => ?_)
    refine pv_lload_3 (pc := 42) dX4_becomeEither_42 ?_
    refine pv_lneg (pc := 43) dX4_becomeEither_43 ?_
    refine pv_goto (pc := 44) (tgt := 48) dX4_becomeEither_44 (by decide) ?_
    refine pv_callV0 (pc := 48) dX4_becomeEither_48 mgX4_become lv_X4_41_4 (by decide) (sx_25 hT) (by omega) (c_X4_become (by decide) (sx_25 hT)) rfl rfl (by decide) ?_
    refine pv_vret (pc := 51) dX4_becomeEither_51 rfl ?_
    refine ⟨rfl, rfl, rfl, ?_, rfl⟩
    first
      | (have e : x_oth p q = true := by
           unfold x_oth
           first
             | (have f1 : q < 0 := by first | exact h2 | exact Classical.not_not.mp h2
                rw [decide_eq_true f1]; rfl)
             | (have f1 : q = 0 := by first | exact h8 | exact Classical.not_not.mp h8
                have f2 : p < 0 := by first | exact h14 | exact Classical.not_not.mp h14
                rw [decide_eq_true f1, decide_eq_true f2, Bool.and_true, Bool.or_true])
         rw [if_pos e, if_pos e]; done)
      | (have e : ¬ x_oth p q = true := by
           unfold x_oth
           have f0 : ¬ q < 0 := by first | exact h2 | exact fun z => h2 z
           first
             | (have f1 : ¬ q = 0 := h8
                rw [decide_eq_false f0, decide_eq_false f1]; simp)
             | (have f2 : ¬ p < 0 := h14
                rw [decide_eq_false f0, decide_eq_false f2]; simp)
         rw [if_neg e, if_neg e]; done)
  · refine pv_lload_3 (pc := 6) dX4_becomeEither_6 ?_
    refine pv_lconst (pc := 7) (v := 0) dX4_becomeEither_7 (by decide) ?_
    refine pv_lcmp_ne (pc := 8) (tgt := 22) dX4_becomeEither_8 dX4_becomeEither_9 (by decide) (fun h8 => ?_) (fun h8 => ?_)
    · refine pv_iconst (pc := 22) (v := 0) dX4_becomeEither_22 (by decide) ?_
      refine pv_istore_5 (pc := 23) dX4_becomeEither_23 (by decide) rfl ?_
      refine pv_aload_0 (pc := 25) dX4_becomeEither_25 ?_
      refine pv_iload_5 (pc := 26) dX4_becomeEither_26 ?_
      refine pv_if_eq (pc := 28) (tgt := 36) dX4_becomeEither_28 (by decide) (fun _ => ?_) (fun q => absurd q (by decide))
      refine pv_lload_1 (pc := 36) dX4_becomeEither_36 ?_
      refine pv_iload_5 (pc := 37) dX4_becomeEither_37 ?_
      refine pv_if_eq (pc := 39) (tgt := 47) dX4_becomeEither_39 (by decide) (fun _ => ?_) (fun q => absurd q (by decide))
      refine pv_lload_3 (pc := 47) dX4_becomeEither_47 ?_
      refine pv_callV0 (pc := 48) dX4_becomeEither_48 mgX4_become lv_X4_41_4 (by decide) (sx_25 hT) (by omega) (c_X4_become (by decide) (sx_25 hT)) rfl rfl (by decide) ?_
      refine pv_vret (pc := 51) dX4_becomeEither_51 rfl ?_
      refine ⟨rfl, rfl, rfl, ?_, rfl⟩
      first
        | (have e : x_oth p q = true := by
             unfold x_oth
             first
               | (have f1 : q < 0 := by first | exact h2 | exact Classical.not_not.mp h2
                  rw [decide_eq_true f1]; rfl)
               | (have f1 : q = 0 := by first | exact h8 | exact Classical.not_not.mp h8
                  have f2 : p < 0 := by first | exact h14 | exact Classical.not_not.mp h14
                  rw [decide_eq_true f1, decide_eq_true f2, Bool.and_true, Bool.or_true])
           rw [if_pos e, if_pos e]; done)
        | (have e : ¬ x_oth p q = true := by
             unfold x_oth
             have f0 : ¬ q < 0 := by first | exact h2 | exact fun z => h2 z
             first
               | (have f1 : ¬ q = 0 := h8
                  rw [decide_eq_false f0, decide_eq_false f1]; simp)
               | (have f2 : ¬ p < 0 := h14
                  rw [decide_eq_false f0, decide_eq_false f2]; simp)
           rw [if_neg e, if_neg e]; done)
    · refine pv_lload_1 (pc := 12) dX4_becomeEither_12 ?_
      refine pv_lconst (pc := 13) (v := 0) dX4_becomeEither_13 (by decide) ?_
      refine pv_lcmp_ge (pc := 14) (tgt := 22) dX4_becomeEither_14 dX4_becomeEither_15 (by decide) (fun h14 => ?_) (fun h14 => ?_)
      · refine pv_iconst (pc := 22) (v := 0) dX4_becomeEither_22 (by decide) ?_
        refine pv_istore_5 (pc := 23) dX4_becomeEither_23 (by decide) rfl ?_
        refine pv_aload_0 (pc := 25) dX4_becomeEither_25 ?_
        refine pv_iload_5 (pc := 26) dX4_becomeEither_26 ?_
        refine pv_if_eq (pc := 28) (tgt := 36) dX4_becomeEither_28 (by decide) (fun _ => ?_) (fun q => absurd q (by decide))
        refine pv_lload_1 (pc := 36) dX4_becomeEither_36 ?_
        refine pv_iload_5 (pc := 37) dX4_becomeEither_37 ?_
        refine pv_if_eq (pc := 39) (tgt := 47) dX4_becomeEither_39 (by decide) (fun _ => ?_) (fun q => absurd q (by decide))
        refine pv_lload_3 (pc := 47) dX4_becomeEither_47 ?_
        refine pv_callV0 (pc := 48) dX4_becomeEither_48 mgX4_become lv_X4_41_4 (by decide) (sx_25 hT) (by omega) (c_X4_become (by decide) (sx_25 hT)) rfl rfl (by decide) ?_
        refine pv_vret (pc := 51) dX4_becomeEither_51 rfl ?_
        refine ⟨rfl, rfl, rfl, ?_, rfl⟩
        first
          | (have e : x_oth p q = true := by
               unfold x_oth
               first
                 | (have f1 : q < 0 := by first | exact h2 | exact Classical.not_not.mp h2
                    rw [decide_eq_true f1]; rfl)
                 | (have f1 : q = 0 := by first | exact h8 | exact Classical.not_not.mp h8
                    have f2 : p < 0 := by first | exact h14 | exact Classical.not_not.mp h14
                    rw [decide_eq_true f1, decide_eq_true f2, Bool.and_true, Bool.or_true])
             rw [if_pos e, if_pos e]; done)
          | (have e : ¬ x_oth p q = true := by
               unfold x_oth
               have f0 : ¬ q < 0 := by first | exact h2 | exact fun z => h2 z
               first
                 | (have f1 : ¬ q = 0 := h8
                    rw [decide_eq_false f0, decide_eq_false f1]; simp)
                 | (have f2 : ¬ p < 0 := h14
                    rw [decide_eq_false f0, decide_eq_false f2]; simp)
             rw [if_neg e, if_neg e]; done)
      · refine pv_iconst (pc := 18) (v := 1) dX4_becomeEither_18 (by decide) ?_
        refine pv_goto (pc := 19) (tgt := 23) dX4_becomeEither_19 (by decide) ?_
        refine pv_istore_5 (pc := 23) dX4_becomeEither_23 (by decide) rfl ?_
        refine pv_aload_0 (pc := 25) dX4_becomeEither_25 ?_
        refine pv_iload_5 (pc := 26) dX4_becomeEither_26 ?_
        refine pv_if_eq (pc := 28) (tgt := 36) dX4_becomeEither_28 (by decide) (fun q => absurd q (by decide)) (fun _ => ?_)
        refine pv_lload_1 (pc := 31) dX4_becomeEither_31 ?_
        refine pv_lneg (pc := 32) dX4_becomeEither_32 ?_
        refine pv_goto (pc := 33) (tgt := 37) dX4_becomeEither_33 (by decide) ?_
        refine pv_iload_5 (pc := 37) dX4_becomeEither_37 ?_
        refine pv_if_eq (pc := 39) (tgt := 47) dX4_becomeEither_39 (by decide) (fun q => absurd q (by decide)) (fun _ => ?_)
        refine pv_lload_3 (pc := 42) dX4_becomeEither_42 ?_
        refine pv_lneg (pc := 43) dX4_becomeEither_43 ?_
        refine pv_goto (pc := 44) (tgt := 48) dX4_becomeEither_44 (by decide) ?_
        refine pv_callV0 (pc := 48) dX4_becomeEither_48 mgX4_become lv_X4_41_4 (by decide) (sx_25 hT) (by omega) (c_X4_become (by decide) (sx_25 hT)) rfl rfl (by decide) ?_
        refine pv_vret (pc := 51) dX4_becomeEither_51 rfl ?_
        refine ⟨rfl, rfl, rfl, ?_, rfl⟩
        first
          | (have e : x_oth p q = true := by
               unfold x_oth
               first
                 | (have f1 : q < 0 := by first | exact h2 | exact Classical.not_not.mp h2
                    rw [decide_eq_true f1]; rfl)
                 | (have f1 : q = 0 := by first | exact h8 | exact Classical.not_not.mp h8
                    have f2 : p < 0 := by first | exact h14 | exact Classical.not_not.mp h14
                    rw [decide_eq_true f1, decide_eq_true f2, Bool.and_true, Bool.or_true])
             rw [if_pos e, if_pos e]; done)
          | (have e : ¬ x_oth p q = true := by
               unfold x_oth
               have f0 : ¬ q < 0 := by first | exact h2 | exact fun z => h2 z
               first
                 | (have f1 : ¬ q = 0 := h8
                    rw [decide_eq_false f0, decide_eq_false f1]; simp)
                 | (have f2 : ¬ p < 0 := h14
                    rw [decide_eq_false f0, decide_eq_false f2]; simp)
             rw [if_neg e, if_neg e]; done)

