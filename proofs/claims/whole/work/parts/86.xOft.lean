/-! the class: so many repetitions -/
def q_oft (J : pv_I) (K : pv_L) (s n : Int32) (T : Nat) (I : pv_I) (L : pv_L) (t : pv_T) (Rf : pv_R) : pv_Q := fun v t1 I1 L1 R1 => ((v = some (.int 1) ∧ (y_go J (K (1 + s.toNatClampNeg)) n.toNatClampNeg T n.toNatClampNeg (y_0 J K)).1 = n.toNatClampNeg ∧ ∃ y : YS, XY 25 (J 0 0) (J 0 3) y I1 L1 ∧ y.2.2.1 = (y_go J (K (1 + s.toNatClampNeg)) n.toNatClampNeg T n.toNatClampNeg (y_0 J K)).2.2.2.1 ∧ y.2.2.2.1 = (y_go J (K (1 + s.toNatClampNeg)) n.toNatClampNeg T n.toNatClampNeg (y_0 J K)).2.2.2.2.1 ∧ y.2.2.2.2 0 = (y_go J (K (1 + s.toNatClampNeg)) n.toNatClampNeg T n.toNatClampNeg (y_0 J K)).2.2.2.2.2 0) ∨ (v = some (.int 0) ∧ ¬ (y_go J (K (1 + s.toNatClampNeg)) n.toNatClampNeg T n.toNatClampNeg (y_0 J K)).1 = n.toNatClampNeg)) ∧ t1 = t ∧ R1 = Rf ∧ kC I L I1 L1
theorem XY.PQ {n sd : Int32} {y : YS} {I : pv_I} {L : pv_L} (h : XY 25 n sd y I L) (P Q : Int64) : XY 25 n sd (y.1, y.2.1, P, Q, y.2.2.2.2) I (pv_u (pv_u L 25 1 P) 25 2 Q) := by
  obtain ⟨h1, h2, h3, h4, h5, h6, h7⟩ := h
  exact ⟨rfl, rfl, h3, h4, h5, h6, h7⟩
theorem XY.fr {n sd : Int32} {y : YS} {I I1 : pv_I} {L L1 : pv_L} (h : XY 25 n sd y I L) (hI : ∀ a j, a = 25 ∨ a = 26 → I1 a j = I a j) (hL : ∀ j, L1 25 j = L 25 j) : XY 25 n sd y I1 L1 := XHw.cg h (fun j => hI 25 j (Or.inl rfl)) (fun j => hI 26 j (Or.inr rfl)) hL

theorem go_le (J : pv_I) (C : Nat → Int64) (n : Nat) : ∀ (T : Nat) (i : Nat) (s : YS), i ≤ n → (y_go J C n T i s).1 ≤ n
  | 0, i, s, h => h
  | T + 1, i, s, h => by
    rw [y_go]
    split
    · exact go_le J C n T _ _ (by have := (y_led_le J C n 0 s).2; omega)
    · exact h
theorem of_eq {a : Nat} {n : Int32} (ha : a ≤ 160) (h0 : 0 ≤ n.toInt) : Int32.ofNat a = n ↔ a = n.toNatClampNeg := by
  have nl := i_lit n
  rw [← Int32.toInt_inj, i_of (by omega)]
  omega
theorem of_lt {a : Nat} {n : Int32} (ha : a ≤ n.toNatClampNeg) (h0 : 0 ≤ n.toInt) (h1 : n.toInt ≤ 160) : Int32.ofNat a < n ↔ ¬ a = n.toNatClampNeg := by
  have nl := i_lit n
  rw [i_lt, i_of (by omega)]
  omega
theorem c_go_at {G : pv_G} {d : Nat} {J : pv_I} {K : pv_L} {h T : Nat} {s n sd : Int32} {s1 : YS} {y : Nat × YS} {t : pv_T} {I : pv_I} {L : pv_L} {Rf : pv_R} (e : y = y_go J (K (1 + s.toNatClampNeg)) n.toNatClampNeg T n.toNatClampNeg s1) (hW : WF J K) (hX : RX J K t I L Rf) (hh : hl_ok t Rf h) (h25 : h = 25 ∨ h = 27) (hb : w_bars J s n = 0) (hT2 : T < 100000) (hx : XY h (J 0 0) sd s1 I L) (hd : 14 ≤ d) : pv_Mt G mX11_goOn d 0 0 [.ref 16, .ref h, .int s, .int n, .int (Int32.ofNat T)] t I L Rf (fun v t1 I1 L1 R1 => v = some (.int (Int32.ofNat y.1)) ∧ t1 = t ∧ R1 = Rf ∧ fH h I L I1 L1 ∧ XY h (J 0 0) sd y.2 I1 L1) := by
  subst e
  exact c_X11_goOn hW hX hh h25 hb hT2 hx hd
theorem go_24 {J : pv_I} {C : Nat → Int64} {n : Nat} {y12 y24 : Nat × YS} {s0 : YS} {c12 c24 : Nat} (h12 : c12 = 12) (h24 : c24 = 24) (e12 : y12 = y_go J C n c12 n s0) (e24 : y24 = y_go J C n c24 n s0) (f12 : y12.1 = n) : y24 = y_go J C n c12 n y12.2 := by
  have h := go_add J C n c12 c12 s0 (by rw [← e12]; exact f12)
  rw [← e12] at h
  have key : ∀ m, m = c12 + c12 → y_go J C n m n s0 = y_go J C n c12 n y12.2 := fun m hm => by rw [hm]; exact h
  exact e24.trans (key c24 (by omega))
theorem bm32 {a : Int} (h : -2147483648 ≤ a ∧ a < 2147483648) : a.bmod (2 ^ 32) = a := by rw [Int.bmod_eq_of_le] <;> omega
theorem x_trl {v : Int32} {U tr : Nat} (hv : v.toInt = (U : Int) - 24) (h1 : 36 < U) (h2 : U ≤ 10000) (etr : tr = (U - 25) / 12) : (v - 1) / 12 = Int32.ofNat tr ∧ v - Int32.ofNat tr * 12 = Int32.ofNat (U - 24 - 12 * tr) ∧ (Int32.ofNat tr + 2).toInt = ((tr + 2 : Nat) : Int) := by
  have q12 : (12 : Int32).toInt = 12 := by decide
  have q1 : (1 : Int32).toInt = 1 := by decide
  have q2 : (2 : Int32).toInt = 2 := by decide
  have ht : tr < 2147483648 := by omega
  have hl : U - 24 - 12 * tr < 2147483648 := by omega
  have b1 : -2147483648 ≤ (U : Int) - 24 - 1 ∧ (U : Int) - 24 - 1 < 2147483648 := by omega
  have b2 : -2147483648 ≤ ((U : Int) - 24 - 1) / 12 ∧ ((U : Int) - 24 - 1) / 12 < 2147483648 := by omega
  have b3 : (0 : Int) ≤ (U : Int) - 24 - 1 := by omega
  have b4 : -2147483648 ≤ (tr : Int) * 12 ∧ (tr : Int) * 12 < 2147483648 := by omega
  have b5 : -2147483648 ≤ (U : Int) - 24 - tr * 12 ∧ (U : Int) - 24 - tr * 12 < 2147483648 := by omega
  have b6 : -2147483648 ≤ (tr : Int) + 2 ∧ (tr : Int) + 2 < 2147483648 := by omega
  have c1 : ((U : Int) - 24 - 1) / 12 = tr := by omega
  have c2 : (U : Int) - 24 - tr * 12 = ((U - 24 - 12 * tr : Nat) : Int) := by omega
  refine ⟨?_, ?_, ?_⟩
  · rw [← Int32.toInt_inj, i_of ht, Int32.toInt_div, Int32.toInt_sub, hv, q1, q12, bm32 b1, Int.tdiv_eq_ediv_of_nonneg b3, bm32 b2, c1]
  · rw [← Int32.toInt_inj, i_of hl, Int32.toInt_sub, Int32.toInt_mul, i_of ht, q12, hv, bm32 b4, bm32 b5, c2]
  · rw [Int32.toInt_add, i_of ht, q2, bm32 b6]; rfl
theorem go_addx {J : pv_I} {C : Nat → Int64} {n a b U : Nat} {y : Nat × YS} {s0 : YS} (e : y = y_go J C n a n s0) (h : y.1 = n) (hU : a + b = U) : y_go J C n U n s0 = y_go J C n b n y.2 := by
  subst hU
  subst e
  exact go_add J C n a b s0 h
theorem go_nox {J : pv_I} {C : Nat → Int64} {n a U : Nat} {y : Nat × YS} {s0 : YS} (e : y = y_go J C n a n s0) (h : ¬ y.1 = n) (hU : a ≤ U) : ¬ (y_go J C n U n s0).1 = n := by
  rw [e] at h
  have g := go_no J C n a (U - a) s0 h
  rw [show a + (U - a) = U by omega] at g
  exact g
theorem go_lex {J : pv_I} {C : Nat → Int64} {n a : Nat} {y : Nat × YS} {s0 : YS} (e : y = y_go J C n a n s0) : y.1 ≤ n := by rw [e]; exact go_le J C n a n s0 (Nat.le_refl _)

theorem c_go_12 {G : pv_G} {d : Nat} {J : pv_I} {K : pv_L} {h T : Nat} (hT12 : T = 12) {s n sd : Int32} {s1 : YS} {y : Nat × YS} {t : pv_T} {I : pv_I} {L : pv_L} {Rf : pv_R} (e : y = y_go J (K (1 + s.toNatClampNeg)) n.toNatClampNeg T n.toNatClampNeg s1) (hW : WF J K) (hX : RX J K t I L Rf) (hh : hl_ok t Rf h) (h25 : h = 25 ∨ h = 27) (hb : w_bars J s n = 0) (hT2 : T < 100000) (hx : XY h (J 0 0) sd s1 I L) (hd : 14 ≤ d) : pv_Mt G mX11_goOn d 0 0 [.ref 16, .ref h, .int s, .int n, .int 12] t I L Rf (fun v t1 I1 L1 R1 => v = some (.int (Int32.ofNat y.1)) ∧ t1 = t ∧ R1 = Rf ∧ fH h I L I1 L1 ∧ XY h (J 0 0) sd y.2 I1 L1) := by
  have g := c_go_at (G := G) (d := d) e hW hX hh h25 hb hT2 hx hd
  rw [show Int32.ofNat T = 12 by rw [hT12]; rfl] at g
  exact g
theorem often_ln {J : pv_I} {C : Nat → Int64} {n : Nat} (hf : figs J C n) {st sp st' sp' : Int32} {p0 q0 P1 Q1 P2 Q2 : Int64} {c0 : Nat → Int32} (hN0 : s_isN p0 q0) {y12 y24 : Nat × YS} {c12 c24 : Nat} (hc12 : c12 = 12) (hc24 : c24 = 24) (e12 : y12 = y_go J C n c12 n (st, sp, p0, q0, c0)) (e24 : y24 = y_go J C n c24 n (st, sp, p0, q0, c0)) (h12 : y12.1 = n) (h24 : y24.1 = n) (eP1 : P1 = y12.2.2.2.1) (eQ1 : Q1 = y12.2.2.2.2.1) (eP2 : P2 = y24.2.2.2.1) (eQ2 : Q2 = y24.2.2.2.2.1) {s : Int32} (hs : s.toInt = 1 ∨ s.toInt = -1) (ha : x_acc s p0 q0 P1 Q1 P2 Q2) {k l : Nat} {ki : Int32} (hki : ki.toInt = k) (hk : 2 ≤ k) (hk2 : k ≤ 1000) (hl : 1 ≤ l) {U : Nat} (hU : 12 * k + l = U) {P Q P' Q' : Int64} (eP : P = p0 + ki.toInt64 * (s.toInt64 * P1 - p0)) (eQ : Q = q0 + ki.toInt64 * (s.toInt64 * Q1 - q0)) (eP' : P' = if x_oth P Q = true then -P else P) (eQ' : Q' = if x_oth P Q = true then -Q else Q) : (s_wide P' Q' 1000000000000 = true → ¬ (y_go J C n U n (st, sp, p0, q0, c0)).1 = n) ∧ (s_wide P' Q' 1000000000000 = false → s_isN P' Q' ∧ ((y_go J C n U n (st, sp, p0, q0, c0)).1 = n ↔ (y_go J C n l n (st', sp', P', Q', y24.2.2.2.2.2)).1 = n) ∧ ((y_go J C n U n (st, sp, p0, q0, c0)).1 = n → (y_go J C n l n (st', sp', P', Q', y24.2.2.2.2.2)).2.2.2.1 = (y_go J C n U n (st, sp, p0, q0, c0)).2.2.2.1 ∧ (y_go J C n l n (st', sp', P', Q', y24.2.2.2.2.2)).2.2.2.2.1 = (y_go J C n U n (st, sp, p0, q0, c0)).2.2.2.2.1 ∧ ∀ j, j < 4 → (y_go J C n l n (st', sp', P', Q', y24.2.2.2.2.2)).2.2.2.2.2 j = (y_go J C n U n (st, sp, p0, q0, c0)).2.2.2.2.2 j)) := by
  subst e12
  subst e24
  subst hc12
  subst hc24
  subst hU
  exact often_line hf hN0 h12 h24 eP1 eQ1 eP2 eQ2 hs ha hki hk hk2 hl eP eQ eP' eQ'

set_option maxRecDepth 100000 in
set_option maxHeartbeats 4000000 in
theorem l_oft {G : pv_G} {d : Nat} {J : pv_I} {K : pv_L} {s n u : Int32} {t : pv_T} {I0 : pv_I} {L0 : pv_L} {Rf : pv_R} {y12 y24 : Nat × YS} {c12 c24 : Nat} (h12 : c12 = 12) (h24 : c24 = 24) (e12 : y12 = (y_go J (K (1 + s.toNatClampNeg)) n.toNatClampNeg c12 n.toNatClampNeg (y_0 J K))) (e24 : y24 = (y_go J (K (1 + s.toNatClampNeg)) n.toNatClampNeg c24 n.toNatClampNeg (y_0 J K))) (hW : WF J K) (hX : RX J K t I0 L0 Rf) (hb : w_bars J s n = 0) (hfg : figs J (K (1 + s.toNatClampNeg)) n.toNatClampNeg) {U : Nat} {vv : Int32} (hU : u.toInt = U) (hv : vv.toInt = u.toInt - 24) (g36 : 36 < u.toInt) (u1 : u.toInt ≤ 10000) (hd : 20 ≤ d) : ∀ I L, kC I0 L0 I L → XY 25 (J 0 0) (J 0 3) y24.2 I L → L 21 1 = K 0 0 → L 21 2 = K 0 1 → L 27 1 = y12.2.2.2.1 → L 27 2 = y12.2.2.2.2.1 → y12.1 = n.toNatClampNeg → y24.1 = n.toNatClampNeg → pv_V G mX11_tryOften d 0 0 (q_oft J K s n U I0 L0 t Rf) 0 0 80 [.ref 16, .int s, .int n, .int u, .int vv, .retAddr 0, .retAddr 0] [] t I L Rf := by
  intro I L hk3 hx3 e211 e212 g271 g272 f12 f24
  have hT := hX.1
  have hR := hX.2.1
  have hX3 := hX.scr hk3
  obtain ⟨hin, hs8, n0, n160, hzz, hz2, hcell⟩ := w_bars_x hW hX hb
  have nl := i_lit n
  have hN24 : s_isN y24.2.2.2.1 y24.2.2.2.2.1 := by
    rw [e24] at f24 ⊢
    exact ((go_vin hfg c24 (y_0 J K) ((K 0 0).toInt, (K 0 1).toInt) hW.2.2.1 (Or.inl ⟨rfl, rfl⟩)).2 f24).1
  have hadd := go_addx (U := U) (b := U - c24) e24 f24 (by omega)
  obtain ⟨tr, etr⟩ : ∃ tr, tr = (U - 25) / 12 := ⟨_, rfl⟩
  obtain ⟨lf, elf⟩ : ∃ lf, lf = U - 24 - 12 * tr := ⟨_, rfl⟩
  obtain ⟨htr, hlf, hki⟩ := x_trl (v := vv) (U := U) (tr := tr) (by omega) (by omega) (by omega) etr
  rw [← elf] at hlf
  obtain ⟨ki, eki⟩ : ∃ ki, ki = Int32.ofNat tr + 2 := ⟨_, rfl⟩
  rw [← eki] at hki
  refine pv_aload_0 (pc := 80) dX11_tryOften_80 ?_
  refine pv_callVq (pc := 81) dX11_tryOften_81 mgX11_signOfStraight lv_X11_405_11 (by decide) (sx_16 hT) (by omega) (c_X11_signOfStraight hT hR (by omega)) rfl rfl (by decide) (fun v t I L Rf hq => ?_)
  obtain ⟨⟨z, rfl, hz⟩, rfl, rfl, rfl, rfl⟩ := hq
  obtain ⟨z0, ez⟩ : ∃ z0, z0 = y_go J (K (1 + s.toNatClampNeg)) n.toNatClampNeg (U - c24) n.toNatClampNeg y24.2 := ⟨_, rfl⟩
  have ez2 := ez.trans hadd.symm
  rcases hz with ⟨rfl, hac⟩ | ⟨rfl, hac⟩ | rfl
  · skip
    refine pv_istore_5 (pc := 84) dX11_tryOften_84 (by decide) rfl ?_
    refine pv_iload_5 (pc := 86) dX11_tryOften_86 ?_
    refine pv_if_eq (pc := 88) (tgt := 167) dX11_tryOften_88 (by decide) (fun q => absurd q (by decide)) (fun _ => ?_)
    refine pv_iload_4 (pc := 91) dX11_tryOften_91 ?_
    refine pv_iconst (pc := 93) (v := 1) dX11_tryOften_93 (by decide) ?_
    refine pv_isub (pc := 94) dX11_tryOften_94 ?_
    refine pv_bipush (pc := 95) (v := 12) dX11_tryOften_95 (by decide) ?_
    refine pv_idiv (pc := 97) dX11_tryOften_97 (by decide) ?_
    refine pv_topv2 (y := Int32.ofNat tr) htr ?_
    refine pv_istore_6 (pc := 98) dX11_tryOften_98 (by decide) rfl ?_
    refine pv_iload_4 (pc := 100) dX11_tryOften_100 ?_
    refine pv_iload_6 (pc := 102) dX11_tryOften_102 ?_
    refine pv_bipush (pc := 104) (v := 12) dX11_tryOften_104 (by decide) ?_
    refine pv_imul (pc := 106) dX11_tryOften_106 ?_
    refine pv_isub (pc := 107) dX11_tryOften_107 ?_
    refine pv_topv2 (y := Int32.ofNat lf) hlf ?_
    refine pv_istore_4 (pc := 108) dX11_tryOften_108 (by decide) rfl ?_
    refine pv_aload_0 (pc := 110) dX11_tryOften_110 ?_
    refine pv_getR (pc := 111) dX11_tryOften_111 fg_X11_38_11 rfl (by decide) (sx_16 hT) (rx_16_6 hR) ?_
    refine pv_aload_0 (pc := 114) dX11_tryOften_114 ?_
    refine pv_getR (pc := 115) dX11_tryOften_115 fg_X11_31_11 rfl (by decide) (sx_16 hT) (rx_16_4 hR) ?_
    refine pv_getL (pc := 118) dX11_tryOften_118 fg_X11_186_4 (by decide) (sx_21 hT) ?_
    refine pv_iload_5 (pc := 121) dX11_tryOften_121 ?_
    refine pv_i2l (pc := 123) dX11_tryOften_123 ?_
    refine pv_aload_0 (pc := 124) dX11_tryOften_124 ?_
    refine pv_getR (pc := 125) dX11_tryOften_125 fg_X11_41_11 rfl (by decide) (sx_16 hT) (rx_16_7 hR) ?_
    refine pv_getL (pc := 128) dX11_tryOften_128 fg_X11_186_4 (by decide) (sx_27 hT) ?_
    refine pv_lmul (pc := 131) dX11_tryOften_131 ?_
    refine pv_iload_6 (pc := 132) dX11_tryOften_132 ?_
    refine pv_iconst (pc := 134) (v := 2) dX11_tryOften_134 (by decide) ?_
    refine pv_iadd (pc := 135) dX11_tryOften_135 ?_
    refine pv_topv2 (y := ki) eki.symm ?_
    refine pv_callS1 (pc := 136) dX11_tryOften_136 mgX11_straightOn ls_X11_408 (by omega) (c_X11_straightOn ) rfl rfl (Nat.le_of_ble_eq_true rfl) ?_
    refine pv_aload_0 (pc := 139) dX11_tryOften_139 ?_
    refine pv_getR (pc := 140) dX11_tryOften_140 fg_X11_31_11 rfl (by decide) (sx_16 hT) (rx_16_4 hR) ?_
    refine pv_getL (pc := 143) dX11_tryOften_143 fg_X11_190_4 (by decide) (sx_21 hT) ?_
    refine pv_iload_5 (pc := 146) dX11_tryOften_146 ?_
    refine pv_i2l (pc := 148) dX11_tryOften_148 ?_
    refine pv_aload_0 (pc := 149) dX11_tryOften_149 ?_
    refine pv_getR (pc := 150) dX11_tryOften_150 fg_X11_41_11 rfl (by decide) (sx_16 hT) (rx_16_7 hR) ?_
    refine pv_getL (pc := 153) dX11_tryOften_153 fg_X11_190_4 (by decide) (sx_27 hT) ?_
    refine pv_lmul (pc := 156) dX11_tryOften_156 ?_
    refine pv_iload_6 (pc := 157) dX11_tryOften_157 ?_
    refine pv_iconst (pc := 159) (v := 2) dX11_tryOften_159 (by decide) ?_
    refine pv_iadd (pc := 160) dX11_tryOften_160 ?_
    refine pv_topv2 (y := ki) eki.symm ?_
    refine pv_callS1 (pc := 161) dX11_tryOften_161 mgX11_straightOn ls_X11_408 (by omega) (c_X11_straightOn ) rfl rfl (Nat.le_of_ble_eq_true rfl) ?_
    refine pv_callV0 (pc := 164) dX11_tryOften_164 mgX4_becomeEither lv_X11_412_4 (by decide) (sx_25 hT) (by omega) (c_X4_becomeEither hT (by omega)) rfl rfl (by decide) ?_
    obtain ⟨P, hP⟩ : ∃ P, P = L 21 1 + ki.toInt64 * ((1 : Int32).toInt64 * L 27 1 - L 21 1) := ⟨_, rfl⟩
    obtain ⟨Q, hQ⟩ : ∃ Q, Q = L 21 2 + ki.toInt64 * ((1 : Int32).toInt64 * L 27 2 - L 21 2) := ⟨_, rfl⟩
    rw [← hP, ← hQ]
    obtain ⟨P', hP'⟩ : ∃ P', P' = if x_oth P Q = true then -P else P := ⟨_, rfl⟩
    obtain ⟨Q', hQ'⟩ : ∃ Q', Q' = if x_oth P Q = true then -Q else Q := ⟨_, rfl⟩
    rw [← hP', ← hQ']
    have hln := often_ln (J := J) (C := K (1 + s.toNatClampNeg)) (n := n.toNatClampNeg) hfg (st := J 0 1) (sp := J 0 2) (st' := y24.2.1) (sp' := y24.2.2.1) (c0 := J 4) hW.2.2.1 (y12 := y12) (y24 := y24) h12 h24 e12 e24 f12 f24 g271 g272 hx3.1 hx3.2.1 (s := 1) (Or.inl (by decide)) (by rw [← e211, ← e212]; exact hac) (k := tr + 2) (l := lf) (ki := ki) hki (by omega) (by omega) (by omega) (U := U) (by omega) (P := P) (Q := Q) (by rw [hP, e211]) (by rw [hQ, e212]) hP' hQ'
    have hx5 := XY.PQ hx3 P' Q'
    have hk5 := (hk3.uL 25 1 P' (by omega)).uL 25 2 Q' (by omega)
    have hX5 := hX.scr hk5
    obtain ⟨zz, ez⟩ : ∃ zz, zz = y_go J (K (1 + s.toNatClampNeg)) n.toNatClampNeg lf n.toNatClampNeg (y24.2.1, y24.2.2.1, P', Q', y24.2.2.2.2.2) := ⟨_, rfl⟩
    refine pv_aload_0 (pc := 167) dX11_tryOften_167 ?_
    refine pv_getR (pc := 168) dX11_tryOften_168 fg_X11_38_11 rfl (by decide) (sx_16 hT) (rx_16_6 hR) ?_
    refine pv_getL (pc := 171) dX11_tryOften_171 fg_X11_186_4 (by decide) (sx_25 hT) ?_
    refine pv_aload_0 (pc := 174) dX11_tryOften_174 ?_
    refine pv_getR (pc := 175) dX11_tryOften_175 fg_X11_38_11 rfl (by decide) (sx_16 hT) (rx_16_6 hR) ?_
    refine pv_getL (pc := 178) dX11_tryOften_178 fg_X11_190_4 (by decide) (sx_25 hT) ?_
    refine pv_ldc2 (pc := 181) dX11_tryOften_181 k_X11_348 ?_
    refine pv_callS1 (pc := 184) dX11_tryOften_184 mgX11_isWide ls_X11_350 (by omega) (c_X11_isWide ) rfl rfl (by decide) ?_
    refine pv_if_ne (pc := 187) (tgt := 210) dX11_tryOften_187 (by decide) (fun h187 => ?_) (fun h187 => ?_)
    · refine pv_iconst (pc := 210) (v := 0) dX11_tryOften_210 (by decide) ?_
      refine pv_iret (pc := 211) dX11_tryOften_211 rfl rfl ?_
      first
        | (have hwd : s_wide P' Q' 1000000000000 = true := (pv_b_n0 _).mp h187
           exact ⟨Or.inr ⟨rfl, hln.1 hwd⟩, rfl, rfl, hk5⟩)
        | (have hwd : s_wide P' Q' 1000000000000 = false := (pv_b_0 _).mp (by first | exact h187 | exact Classical.not_not.mp h187)
           obtain ⟨l1, l2, l3⟩ := hln.2 hwd
           obtain ⟨hcmp1, hcmp2⟩ := of_eq (a := zz.1) (n := n) (by have := go_lex ez; omega) n0
           first
             | (have f1 : Int32.ofNat zz.1 = n := by first | exact h203 | exact Classical.not_not.mp h203
                have hyes := hcmp1 f1
                rw [ez] at hyes hxe
                have hT1 := l2.mpr hyes
                obtain ⟨m1, m2, m3⟩ := l3 hT1
                exact ⟨Or.inl ⟨rfl, hT1, _, hxe, m1, m2, m3 0 (by decide)⟩, rfl, rfl, hk5.tr (hfe.kC (Or.inl rfl))⟩)
             | (have f1 : ¬ Int32.ofNat zz.1 = n := h203
                have hno := fun q => f1 (hcmp2 q)
                rw [ez] at hno
                exact ⟨Or.inr ⟨rfl, fun q => hno (l2.mp q)⟩, rfl, rfl, hk5.tr (hfe.kC (Or.inl rfl))⟩))
    · refine pv_aload_0 (pc := 190) dX11_tryOften_190 ?_
      refine pv_aload_0 (pc := 191) dX11_tryOften_191 ?_
      refine pv_getR (pc := 192) dX11_tryOften_192 fg_X11_38_11 rfl (by decide) (sx_16 hT) (rx_16_6 hR) ?_
      refine pv_iload_1 (pc := 195) dX11_tryOften_195 ?_
      refine pv_iload_2 (pc := 196) dX11_tryOften_196 ?_
      refine pv_iload_4 (pc := 197) dX11_tryOften_197 ?_
      refine pv_callVq (pc := 199) dX11_tryOften_199 mgX11_goOn lv_X11_401_11 (by decide) (sx_16 hT) (by omega) (c_go_at (T := lf) (s1 := (y24.2.1, y24.2.2.1, P', Q', y24.2.2.2.2.2)) ez hW hX5 (hl_25 hT hR) (Or.inl rfl) hb (by omega) hx5 (by omega)) rfl rfl (by decide) (fun v t I L Rf hq => ?_)
      obtain ⟨rfl, rfl, rfl, hfe, hxe⟩ := hq
      refine pv_iload_2 (pc := 202) dX11_tryOften_202 ?_
      refine pv_icmp_ne (pc := 203) (tgt := 210) dX11_tryOften_203 (by decide) (fun h203 => ?_) (fun h203 => ?_)
      · refine pv_iconst (pc := 210) (v := 0) dX11_tryOften_210 (by decide) ?_
        refine pv_iret (pc := 211) dX11_tryOften_211 rfl rfl ?_
        first
          | (have hwd : s_wide P' Q' 1000000000000 = true := (pv_b_n0 _).mp h187
             exact ⟨Or.inr ⟨rfl, hln.1 hwd⟩, rfl, rfl, hk5⟩)
          | (have hwd : s_wide P' Q' 1000000000000 = false := (pv_b_0 _).mp (by first | exact h187 | exact Classical.not_not.mp h187)
             obtain ⟨l1, l2, l3⟩ := hln.2 hwd
             obtain ⟨hcmp1, hcmp2⟩ := of_eq (a := zz.1) (n := n) (by have := go_lex ez; omega) n0
             first
               | (have f1 : Int32.ofNat zz.1 = n := by first | exact h203 | exact Classical.not_not.mp h203
                  have hyes := hcmp1 f1
                  rw [ez] at hyes hxe
                  have hT1 := l2.mpr hyes
                  obtain ⟨m1, m2, m3⟩ := l3 hT1
                  exact ⟨Or.inl ⟨rfl, hT1, _, hxe, m1, m2, m3 0 (by decide)⟩, rfl, rfl, hk5.tr (hfe.kC (Or.inl rfl))⟩)
               | (have f1 : ¬ Int32.ofNat zz.1 = n := h203
                  have hno := fun q => f1 (hcmp2 q)
                  rw [ez] at hno
                  exact ⟨Or.inr ⟨rfl, fun q => hno (l2.mp q)⟩, rfl, rfl, hk5.tr (hfe.kC (Or.inl rfl))⟩))
      · refine pv_iconst (pc := 206) (v := 1) dX11_tryOften_206 (by decide) ?_
        refine pv_goto (pc := 207) (tgt := 211) dX11_tryOften_207 (by decide) ?_
        refine pv_iret (pc := 211) dX11_tryOften_211 rfl rfl ?_
        first
          | (have hwd : s_wide P' Q' 1000000000000 = true := (pv_b_n0 _).mp h187
             exact ⟨Or.inr ⟨rfl, hln.1 hwd⟩, rfl, rfl, hk5⟩)
          | (have hwd : s_wide P' Q' 1000000000000 = false := (pv_b_0 _).mp (by first | exact h187 | exact Classical.not_not.mp h187)
             obtain ⟨l1, l2, l3⟩ := hln.2 hwd
             obtain ⟨hcmp1, hcmp2⟩ := of_eq (a := zz.1) (n := n) (by have := go_lex ez; omega) n0
             first
               | (have f1 : Int32.ofNat zz.1 = n := by first | exact h203 | exact Classical.not_not.mp h203
                  have hyes := hcmp1 f1
                  rw [ez] at hyes hxe
                  have hT1 := l2.mpr hyes
                  obtain ⟨m1, m2, m3⟩ := l3 hT1
                  exact ⟨Or.inl ⟨rfl, hT1, _, hxe, m1, m2, m3 0 (by decide)⟩, rfl, rfl, hk5.tr (hfe.kC (Or.inl rfl))⟩)
               | (have f1 : ¬ Int32.ofNat zz.1 = n := h203
                  have hno := fun q => f1 (hcmp2 q)
                  rw [ez] at hno
                  exact ⟨Or.inr ⟨rfl, fun q => hno (l2.mp q)⟩, rfl, rfl, hk5.tr (hfe.kC (Or.inl rfl))⟩))
  · skip
    refine pv_istore_5 (pc := 84) dX11_tryOften_84 (by decide) rfl ?_
    refine pv_iload_5 (pc := 86) dX11_tryOften_86 ?_
    refine pv_if_eq (pc := 88) (tgt := 167) dX11_tryOften_88 (by decide) (fun q => absurd q (by decide)) (fun _ => ?_)
    refine pv_iload_4 (pc := 91) dX11_tryOften_91 ?_
    refine pv_iconst (pc := 93) (v := 1) dX11_tryOften_93 (by decide) ?_
    refine pv_isub (pc := 94) dX11_tryOften_94 ?_
    refine pv_bipush (pc := 95) (v := 12) dX11_tryOften_95 (by decide) ?_
    refine pv_idiv (pc := 97) dX11_tryOften_97 (by decide) ?_
    refine pv_topv2 (y := Int32.ofNat tr) htr ?_
    refine pv_istore_6 (pc := 98) dX11_tryOften_98 (by decide) rfl ?_
    refine pv_iload_4 (pc := 100) dX11_tryOften_100 ?_
    refine pv_iload_6 (pc := 102) dX11_tryOften_102 ?_
    refine pv_bipush (pc := 104) (v := 12) dX11_tryOften_104 (by decide) ?_
    refine pv_imul (pc := 106) dX11_tryOften_106 ?_
    refine pv_isub (pc := 107) dX11_tryOften_107 ?_
    refine pv_topv2 (y := Int32.ofNat lf) hlf ?_
    refine pv_istore_4 (pc := 108) dX11_tryOften_108 (by decide) rfl ?_
    refine pv_aload_0 (pc := 110) dX11_tryOften_110 ?_
    refine pv_getR (pc := 111) dX11_tryOften_111 fg_X11_38_11 rfl (by decide) (sx_16 hT) (rx_16_6 hR) ?_
    refine pv_aload_0 (pc := 114) dX11_tryOften_114 ?_
    refine pv_getR (pc := 115) dX11_tryOften_115 fg_X11_31_11 rfl (by decide) (sx_16 hT) (rx_16_4 hR) ?_
    refine pv_getL (pc := 118) dX11_tryOften_118 fg_X11_186_4 (by decide) (sx_21 hT) ?_
    refine pv_iload_5 (pc := 121) dX11_tryOften_121 ?_
    refine pv_i2l (pc := 123) dX11_tryOften_123 ?_
    refine pv_aload_0 (pc := 124) dX11_tryOften_124 ?_
    refine pv_getR (pc := 125) dX11_tryOften_125 fg_X11_41_11 rfl (by decide) (sx_16 hT) (rx_16_7 hR) ?_
    refine pv_getL (pc := 128) dX11_tryOften_128 fg_X11_186_4 (by decide) (sx_27 hT) ?_
    refine pv_lmul (pc := 131) dX11_tryOften_131 ?_
    refine pv_iload_6 (pc := 132) dX11_tryOften_132 ?_
    refine pv_iconst (pc := 134) (v := 2) dX11_tryOften_134 (by decide) ?_
    refine pv_iadd (pc := 135) dX11_tryOften_135 ?_
    refine pv_topv2 (y := ki) eki.symm ?_
    refine pv_callS1 (pc := 136) dX11_tryOften_136 mgX11_straightOn ls_X11_408 (by omega) (c_X11_straightOn ) rfl rfl (Nat.le_of_ble_eq_true rfl) ?_
    refine pv_aload_0 (pc := 139) dX11_tryOften_139 ?_
    refine pv_getR (pc := 140) dX11_tryOften_140 fg_X11_31_11 rfl (by decide) (sx_16 hT) (rx_16_4 hR) ?_
    refine pv_getL (pc := 143) dX11_tryOften_143 fg_X11_190_4 (by decide) (sx_21 hT) ?_
    refine pv_iload_5 (pc := 146) dX11_tryOften_146 ?_
    refine pv_i2l (pc := 148) dX11_tryOften_148 ?_
    refine pv_aload_0 (pc := 149) dX11_tryOften_149 ?_
    refine pv_getR (pc := 150) dX11_tryOften_150 fg_X11_41_11 rfl (by decide) (sx_16 hT) (rx_16_7 hR) ?_
    refine pv_getL (pc := 153) dX11_tryOften_153 fg_X11_190_4 (by decide) (sx_27 hT) ?_
    refine pv_lmul (pc := 156) dX11_tryOften_156 ?_
    refine pv_iload_6 (pc := 157) dX11_tryOften_157 ?_
    refine pv_iconst (pc := 159) (v := 2) dX11_tryOften_159 (by decide) ?_
    refine pv_iadd (pc := 160) dX11_tryOften_160 ?_
    refine pv_topv2 (y := ki) eki.symm ?_
    refine pv_callS1 (pc := 161) dX11_tryOften_161 mgX11_straightOn ls_X11_408 (by omega) (c_X11_straightOn ) rfl rfl (Nat.le_of_ble_eq_true rfl) ?_
    refine pv_callV0 (pc := 164) dX11_tryOften_164 mgX4_becomeEither lv_X11_412_4 (by decide) (sx_25 hT) (by omega) (c_X4_becomeEither hT (by omega)) rfl rfl (by decide) ?_
    obtain ⟨P, hP⟩ : ∃ P, P = L 21 1 + ki.toInt64 * ((-1 : Int32).toInt64 * L 27 1 - L 21 1) := ⟨_, rfl⟩
    obtain ⟨Q, hQ⟩ : ∃ Q, Q = L 21 2 + ki.toInt64 * ((-1 : Int32).toInt64 * L 27 2 - L 21 2) := ⟨_, rfl⟩
    rw [← hP, ← hQ]
    obtain ⟨P', hP'⟩ : ∃ P', P' = if x_oth P Q = true then -P else P := ⟨_, rfl⟩
    obtain ⟨Q', hQ'⟩ : ∃ Q', Q' = if x_oth P Q = true then -Q else Q := ⟨_, rfl⟩
    rw [← hP', ← hQ']
    have hln := often_ln (J := J) (C := K (1 + s.toNatClampNeg)) (n := n.toNatClampNeg) hfg (st := J 0 1) (sp := J 0 2) (st' := y24.2.1) (sp' := y24.2.2.1) (c0 := J 4) hW.2.2.1 (y12 := y12) (y24 := y24) h12 h24 e12 e24 f12 f24 g271 g272 hx3.1 hx3.2.1 (s := -1) (Or.inr (by decide)) (by rw [← e211, ← e212]; exact hac) (k := tr + 2) (l := lf) (ki := ki) hki (by omega) (by omega) (by omega) (U := U) (by omega) (P := P) (Q := Q) (by rw [hP, e211]) (by rw [hQ, e212]) hP' hQ'
    have hx5 := XY.PQ hx3 P' Q'
    have hk5 := (hk3.uL 25 1 P' (by omega)).uL 25 2 Q' (by omega)
    have hX5 := hX.scr hk5
    obtain ⟨zz, ez⟩ : ∃ zz, zz = y_go J (K (1 + s.toNatClampNeg)) n.toNatClampNeg lf n.toNatClampNeg (y24.2.1, y24.2.2.1, P', Q', y24.2.2.2.2.2) := ⟨_, rfl⟩
    refine pv_aload_0 (pc := 167) dX11_tryOften_167 ?_
    refine pv_getR (pc := 168) dX11_tryOften_168 fg_X11_38_11 rfl (by decide) (sx_16 hT) (rx_16_6 hR) ?_
    refine pv_getL (pc := 171) dX11_tryOften_171 fg_X11_186_4 (by decide) (sx_25 hT) ?_
    refine pv_aload_0 (pc := 174) dX11_tryOften_174 ?_
    refine pv_getR (pc := 175) dX11_tryOften_175 fg_X11_38_11 rfl (by decide) (sx_16 hT) (rx_16_6 hR) ?_
    refine pv_getL (pc := 178) dX11_tryOften_178 fg_X11_190_4 (by decide) (sx_25 hT) ?_
    refine pv_ldc2 (pc := 181) dX11_tryOften_181 k_X11_348 ?_
    refine pv_callS1 (pc := 184) dX11_tryOften_184 mgX11_isWide ls_X11_350 (by omega) (c_X11_isWide ) rfl rfl (by decide) ?_
    refine pv_if_ne (pc := 187) (tgt := 210) dX11_tryOften_187 (by decide) (fun h187 => ?_) (fun h187 => ?_)
    · refine pv_iconst (pc := 210) (v := 0) dX11_tryOften_210 (by decide) ?_
      refine pv_iret (pc := 211) dX11_tryOften_211 rfl rfl ?_
      first
        | (have hwd : s_wide P' Q' 1000000000000 = true := (pv_b_n0 _).mp h187
           exact ⟨Or.inr ⟨rfl, hln.1 hwd⟩, rfl, rfl, hk5⟩)
        | (have hwd : s_wide P' Q' 1000000000000 = false := (pv_b_0 _).mp (by first | exact h187 | exact Classical.not_not.mp h187)
           obtain ⟨l1, l2, l3⟩ := hln.2 hwd
           obtain ⟨hcmp1, hcmp2⟩ := of_eq (a := zz.1) (n := n) (by have := go_lex ez; omega) n0
           first
             | (have f1 : Int32.ofNat zz.1 = n := by first | exact h203 | exact Classical.not_not.mp h203
                have hyes := hcmp1 f1
                rw [ez] at hyes hxe
                have hT1 := l2.mpr hyes
                obtain ⟨m1, m2, m3⟩ := l3 hT1
                exact ⟨Or.inl ⟨rfl, hT1, _, hxe, m1, m2, m3 0 (by decide)⟩, rfl, rfl, hk5.tr (hfe.kC (Or.inl rfl))⟩)
             | (have f1 : ¬ Int32.ofNat zz.1 = n := h203
                have hno := fun q => f1 (hcmp2 q)
                rw [ez] at hno
                exact ⟨Or.inr ⟨rfl, fun q => hno (l2.mp q)⟩, rfl, rfl, hk5.tr (hfe.kC (Or.inl rfl))⟩))
    · refine pv_aload_0 (pc := 190) dX11_tryOften_190 ?_
      refine pv_aload_0 (pc := 191) dX11_tryOften_191 ?_
      refine pv_getR (pc := 192) dX11_tryOften_192 fg_X11_38_11 rfl (by decide) (sx_16 hT) (rx_16_6 hR) ?_
      refine pv_iload_1 (pc := 195) dX11_tryOften_195 ?_
      refine pv_iload_2 (pc := 196) dX11_tryOften_196 ?_
      refine pv_iload_4 (pc := 197) dX11_tryOften_197 ?_
      refine pv_callVq (pc := 199) dX11_tryOften_199 mgX11_goOn lv_X11_401_11 (by decide) (sx_16 hT) (by omega) (c_go_at (T := lf) (s1 := (y24.2.1, y24.2.2.1, P', Q', y24.2.2.2.2.2)) ez hW hX5 (hl_25 hT hR) (Or.inl rfl) hb (by omega) hx5 (by omega)) rfl rfl (by decide) (fun v t I L Rf hq => ?_)
      obtain ⟨rfl, rfl, rfl, hfe, hxe⟩ := hq
      refine pv_iload_2 (pc := 202) dX11_tryOften_202 ?_
      refine pv_icmp_ne (pc := 203) (tgt := 210) dX11_tryOften_203 (by decide) (fun h203 => ?_) (fun h203 => ?_)
      · refine pv_iconst (pc := 210) (v := 0) dX11_tryOften_210 (by decide) ?_
        refine pv_iret (pc := 211) dX11_tryOften_211 rfl rfl ?_
        first
          | (have hwd : s_wide P' Q' 1000000000000 = true := (pv_b_n0 _).mp h187
             exact ⟨Or.inr ⟨rfl, hln.1 hwd⟩, rfl, rfl, hk5⟩)
          | (have hwd : s_wide P' Q' 1000000000000 = false := (pv_b_0 _).mp (by first | exact h187 | exact Classical.not_not.mp h187)
             obtain ⟨l1, l2, l3⟩ := hln.2 hwd
             obtain ⟨hcmp1, hcmp2⟩ := of_eq (a := zz.1) (n := n) (by have := go_lex ez; omega) n0
             first
               | (have f1 : Int32.ofNat zz.1 = n := by first | exact h203 | exact Classical.not_not.mp h203
                  have hyes := hcmp1 f1
                  rw [ez] at hyes hxe
                  have hT1 := l2.mpr hyes
                  obtain ⟨m1, m2, m3⟩ := l3 hT1
                  exact ⟨Or.inl ⟨rfl, hT1, _, hxe, m1, m2, m3 0 (by decide)⟩, rfl, rfl, hk5.tr (hfe.kC (Or.inl rfl))⟩)
               | (have f1 : ¬ Int32.ofNat zz.1 = n := h203
                  have hno := fun q => f1 (hcmp2 q)
                  rw [ez] at hno
                  exact ⟨Or.inr ⟨rfl, fun q => hno (l2.mp q)⟩, rfl, rfl, hk5.tr (hfe.kC (Or.inl rfl))⟩))
      · refine pv_iconst (pc := 206) (v := 1) dX11_tryOften_206 (by decide) ?_
        refine pv_goto (pc := 207) (tgt := 211) dX11_tryOften_207 (by decide) ?_
        refine pv_iret (pc := 211) dX11_tryOften_211 rfl rfl ?_
        first
          | (have hwd : s_wide P' Q' 1000000000000 = true := (pv_b_n0 _).mp h187
             exact ⟨Or.inr ⟨rfl, hln.1 hwd⟩, rfl, rfl, hk5⟩)
          | (have hwd : s_wide P' Q' 1000000000000 = false := (pv_b_0 _).mp (by first | exact h187 | exact Classical.not_not.mp h187)
             obtain ⟨l1, l2, l3⟩ := hln.2 hwd
             obtain ⟨hcmp1, hcmp2⟩ := of_eq (a := zz.1) (n := n) (by have := go_lex ez; omega) n0
             first
               | (have f1 : Int32.ofNat zz.1 = n := by first | exact h203 | exact Classical.not_not.mp h203
                  have hyes := hcmp1 f1
                  rw [ez] at hyes hxe
                  have hT1 := l2.mpr hyes
                  obtain ⟨m1, m2, m3⟩ := l3 hT1
                  exact ⟨Or.inl ⟨rfl, hT1, _, hxe, m1, m2, m3 0 (by decide)⟩, rfl, rfl, hk5.tr (hfe.kC (Or.inl rfl))⟩)
               | (have f1 : ¬ Int32.ofNat zz.1 = n := h203
                  have hno := fun q => f1 (hcmp2 q)
                  rw [ez] at hno
                  exact ⟨Or.inr ⟨rfl, fun q => hno (l2.mp q)⟩, rfl, rfl, hk5.tr (hfe.kC (Or.inl rfl))⟩))
  · skip
    refine pv_istore_5 (pc := 84) dX11_tryOften_84 (by decide) rfl ?_
    refine pv_iload_5 (pc := 86) dX11_tryOften_86 ?_
    refine pv_if_eq (pc := 88) (tgt := 167) dX11_tryOften_88 (by decide) (fun _ => ?_) (fun q => absurd q (by decide))
    refine pv_aload_0 (pc := 167) dX11_tryOften_167 ?_
    refine pv_getR (pc := 168) dX11_tryOften_168 fg_X11_38_11 rfl (by decide) (sx_16 hT) (rx_16_6 hR) ?_
    refine pv_getL (pc := 171) dX11_tryOften_171 fg_X11_186_4 (by decide) (sx_25 hT) ?_
    refine pv_aload_0 (pc := 174) dX11_tryOften_174 ?_
    refine pv_getR (pc := 175) dX11_tryOften_175 fg_X11_38_11 rfl (by decide) (sx_16 hT) (rx_16_6 hR) ?_
    refine pv_getL (pc := 178) dX11_tryOften_178 fg_X11_190_4 (by decide) (sx_25 hT) ?_
    refine pv_ldc2 (pc := 181) dX11_tryOften_181 k_X11_348 ?_
    refine pv_callS1 (pc := 184) dX11_tryOften_184 mgX11_isWide ls_X11_350 (by omega) (c_X11_isWide ) rfl rfl (by decide) ?_
    refine pv_if_ne (pc := 187) (tgt := 210) dX11_tryOften_187 (by decide) (fun h187 => absurd h187 (not_not_intro (by rw [show L 25 1 = _ from hx3.1, show L 25 2 = _ from hx3.2.1, wide_no hN24]; rfl))) (fun h187 => ?_)
    refine pv_aload_0 (pc := 190) dX11_tryOften_190 ?_
    refine pv_aload_0 (pc := 191) dX11_tryOften_191 ?_
    refine pv_getR (pc := 192) dX11_tryOften_192 fg_X11_38_11 rfl (by decide) (sx_16 hT) (rx_16_6 hR) ?_
    refine pv_iload_1 (pc := 195) dX11_tryOften_195 ?_
    refine pv_iload_2 (pc := 196) dX11_tryOften_196 ?_
    refine pv_iload_4 (pc := 197) dX11_tryOften_197 ?_
    refine pv_topv2 (y := Int32.ofNat (U - c24)) (by rw [← Int32.toInt_inj, i_of (by omega), hv]; omega) ?_
    refine pv_callVq (pc := 199) dX11_tryOften_199 mgX11_goOn lv_X11_401_11 (by decide) (sx_16 hT) (by omega) (c_go_at (T := (U - c24)) (s1 := y24.2) ez hW hX3 (hl_25 hT hR) (Or.inl rfl) hb (by omega) hx3 (by omega)) rfl rfl (by decide) (fun v t I L Rf hq => ?_)
    obtain ⟨rfl, rfl, rfl, hfe, hxe⟩ := hq
    refine pv_iload_2 (pc := 202) dX11_tryOften_202 ?_
    refine pv_icmp_ne (pc := 203) (tgt := 210) dX11_tryOften_203 (by decide) (fun h203 => ?_) (fun h203 => ?_)
    · refine pv_iconst (pc := 210) (v := 0) dX11_tryOften_210 (by decide) ?_
      refine pv_iret (pc := 211) dX11_tryOften_211 rfl rfl ?_
      obtain ⟨hcmp1, hcmp2⟩ := of_eq (a := z0.1) (n := n) (by have := go_lex ez; omega) n0
      first
        | (have f1 : Int32.ofNat z0.1 = n := by first | exact h203 | exact Classical.not_not.mp h203
           have hyes := hcmp1 f1
           rw [ez2] at hyes hxe
           exact ⟨Or.inl ⟨rfl, hyes, _, hxe, rfl, rfl, rfl⟩, rfl, rfl, hk3.tr (hfe.kC (Or.inl rfl))⟩)
        | (have f1 : ¬ Int32.ofNat z0.1 = n := h203
           have hno := fun q => f1 (hcmp2 q)
           rw [ez2] at hno
           exact ⟨Or.inr ⟨rfl, hno⟩, rfl, rfl, hk3.tr (hfe.kC (Or.inl rfl))⟩)
    · refine pv_iconst (pc := 206) (v := 1) dX11_tryOften_206 (by decide) ?_
      refine pv_goto (pc := 207) (tgt := 211) dX11_tryOften_207 (by decide) ?_
      refine pv_iret (pc := 211) dX11_tryOften_211 rfl rfl ?_
      obtain ⟨hcmp1, hcmp2⟩ := of_eq (a := z0.1) (n := n) (by have := go_lex ez; omega) n0
      first
        | (have f1 : Int32.ofNat z0.1 = n := by first | exact h203 | exact Classical.not_not.mp h203
           have hyes := hcmp1 f1
           rw [ez2] at hyes hxe
           exact ⟨Or.inl ⟨rfl, hyes, _, hxe, rfl, rfl, rfl⟩, rfl, rfl, hk3.tr (hfe.kC (Or.inl rfl))⟩)
        | (have f1 : ¬ Int32.ofNat z0.1 = n := h203
           have hno := fun q => f1 (hcmp2 q)
           rw [ez2] at hno
           exact ⟨Or.inr ⟨rfl, hno⟩, rfl, rfl, hk3.tr (hfe.kC (Or.inl rfl))⟩)

set_option maxRecDepth 100000 in
set_option maxHeartbeats 4000000 in
theorem c_X11_tryOften {G : pv_G} {d : Nat} {J : pv_I} {K : pv_L} {s n u : Int32} {t : pv_T} {I : pv_I} {L : pv_L} {Rf : pv_R} (hW : WF J K) (hX : RX J K t I L Rf) (hb : w_bars J s n = 0) (hfg : figs J (K (1 + s.toNatClampNeg)) n.toNatClampNeg) {U : Nat} (hU : u.toInt = U) (u1 : u.toInt ≤ 10000) (hd : 24 ≤ d) : pv_Mt G mX11_tryOften d 0 0 [.ref 16, .int s, .int n, .int u] t I L Rf (q_oft J K s n U I L t Rf) := by
  refine pv_mt mgX11_tryOften.2.2.2.2.2 [.ref 16, .int s, .int n, .int u, .retAddr 0, .retAddr 0, .retAddr 0] rfl (Nat.le_of_ble_eq_true rfl) ?_
  have hT := hX.1
  have hR := hX.2.1
  have hxh := hX.2.2.1
  obtain ⟨hin, hs8, n0, n160, hzz, hz2, hcell⟩ := w_bars_x hW hX hb
  have nl := i_lit n
  have q36 : (36 : Int32).toInt = 36 := by decide
  obtain ⟨c12, h12⟩ : ∃ c, c = 12 := ⟨_, rfl⟩
  obtain ⟨c24, h24⟩ : ∃ c, c = 24 := ⟨_, rfl⟩
  obtain ⟨y12, e12⟩ : ∃ y, y = y_go J (K (1 + s.toNatClampNeg)) n.toNatClampNeg c12 n.toNatClampNeg (y_0 J K) := ⟨_, rfl⟩
  obtain ⟨y24, e24⟩ : ∃ y, y = y_go J (K (1 + s.toNatClampNeg)) n.toNatClampNeg c24 n.toNatClampNeg (y_0 J K) := ⟨_, rfl⟩
  obtain ⟨z, ez⟩ : ∃ y, y = y_go J (K (1 + s.toNatClampNeg)) n.toNatClampNeg U n.toNatClampNeg (y_0 J K) := ⟨_, rfl⟩
  by_cases g36 : 36 < u
  · rw [i_lt, q36] at g36
    have H80 := l_oft (G := G) (d := d) (I0 := I) (L0 := L) (y12 := y12) (y24 := y24) h12 h24 e12 e24 hW hX hb hfg (vv := u + -24) hU (by rw [Int32.toInt_add, show (-24 : Int32).toInt = -24 by decide]; exact bm32 (by omega)) g36 u1 (by omega)
    have g36 : ¬¬ (36 : Int32) < u := not_not_intro (by rw [i_lt, q36]; exact g36)
    refine pv_aload_0 (pc := 0) dX11_tryOften_0 ?_
    refine pv_getR (pc := 1) dX11_tryOften_1 fg_X11_38_11 rfl (by decide) (sx_16 hT) (rx_16_6 hR) ?_
    refine pv_aload_0 (pc := 4) dX11_tryOften_4 ?_
    refine pv_getR (pc := 5) dX11_tryOften_5 fg_X11_31_11 rfl (by decide) (sx_16 hT) (rx_16_4 hR) ?_
    refine pv_callVq (pc := 8) dX11_tryOften_8 mgX4_takeFrom lv_X11_169_4 (by decide) (sx_25 hT) (by omega) (c_tk_25_21 hT hR hxh (by omega)) rfl rfl (by decide) (fun v t I L Rf hq => ?_)
    obtain ⟨rfl, rfl, rfl, hf0, hx0⟩ := hq
    have hk0 : kC _ _ I L := hf0.kC (Or.inl rfl)
    have hX0 := hX.scr hk0
    refine pv_iload_3 (pc := 11) dX11_tryOften_11 ?_
    refine pv_istore_4 (pc := 12) dX11_tryOften_12 (by decide) rfl ?_
    refine pv_iload_3 (pc := 14) dX11_tryOften_14 ?_
    refine pv_bipush (pc := 15) (v := 36) dX11_tryOften_15 (by decide) ?_
    refine pv_icmp_le (pc := 17) (tgt := 167) dX11_tryOften_17 (by decide) (fun h17 => absurd h17 g36) (fun h17 => ?_)
    refine pv_aload_0 (pc := 20) dX11_tryOften_20 ?_
    refine pv_aload_0 (pc := 21) dX11_tryOften_21 ?_
    refine pv_getR (pc := 22) dX11_tryOften_22 fg_X11_38_11 rfl (by decide) (sx_16 hT) (rx_16_6 hR) ?_
    refine pv_iload_1 (pc := 25) dX11_tryOften_25 ?_
    refine pv_iload_2 (pc := 26) dX11_tryOften_26 ?_
    refine pv_bipush (pc := 27) (v := 12) dX11_tryOften_27 (by decide) ?_
    refine pv_callVq (pc := 29) dX11_tryOften_29 mgX11_goOn lv_X11_401_11 (by decide) (sx_16 hT) (by omega) (c_go_12 h12 (T := c12) (s1 := y_0 J K) e12 hW hX0 (hl_25 hT hR) (Or.inl rfl) hb (by omega) hx0 (by omega)) rfl rfl (by decide) (fun v t I L Rf hq => ?_)
    obtain ⟨rfl, rfl, rfl, hf1, hx1⟩ := hq
    refine pv_iload_2 (pc := 32) dX11_tryOften_32 ?_
    refine pv_icmp_ge (pc := 33) (tgt := 38) dX11_tryOften_33 (by decide) (fun h33 => ?_) (fun h33 => ?_)
    · have f12 : y12.1 = n.toNatClampNeg := by
        have f1 : ¬ Int32.ofNat y12.1 < n := by first | exact h33 | exact fun q => h33 q
        exact Classical.not_not.mp (fun q => f1 ((of_lt (go_lex e12) n0 n160).mpr q))
      have e24b := go_24 h12 h24 e12 e24 f12
      have hk1 := hk0.tr (hf1.kC (Or.inl rfl))
      refine pv_aload_0 (pc := 38) dX11_tryOften_38 ?_
      refine pv_getR (pc := 39) dX11_tryOften_39 fg_X11_41_11 rfl (by decide) (sx_16 hT) (rx_16_7 hR) ?_
      refine pv_aload_0 (pc := 42) dX11_tryOften_42 ?_
      refine pv_getR (pc := 43) dX11_tryOften_43 fg_X11_38_11 rfl (by decide) (sx_16 hT) (rx_16_6 hR) ?_
      refine pv_getL (pc := 46) dX11_tryOften_46 fg_X11_186_4 (by decide) (sx_25 hT) ?_
      refine pv_aload_0 (pc := 49) dX11_tryOften_49 ?_
      refine pv_getR (pc := 50) dX11_tryOften_50 fg_X11_38_11 rfl (by decide) (sx_16 hT) (rx_16_6 hR) ?_
      refine pv_getL (pc := 53) dX11_tryOften_53 fg_X11_190_4 (by decide) (sx_25 hT) ?_
      refine pv_callV0 (pc := 56) dX11_tryOften_56 mgX4_become lv_X11_165_4 (by decide) (sx_27 hT) (by omega) (c_X4_become (by decide) (sx_27 hT)) rfl rfl (by decide) ?_
      have hk2 := (hk1.uL 27 1 (L 25 1) (by omega)).uL 27 2 (L 25 2) (by omega)
      have hX2 := hX.scr hk2
      have hx2 : XY 25 (J 0 0) (J 0 3) y12.2 I (pv_u (pv_u L 27 1 (L 25 1)) 27 2 (L 25 2)) := XY.fr hx1 (fun _ _ _ => rfl) (fun j => by rw [pv_u_o _ (by omega), pv_u_o _ (by omega)])
      have e271 : pv_u (pv_u L 27 1 (L 25 1)) 27 2 (L 25 2) 27 1 = y12.2.2.2.1 := by rw [pv_u_o _ (by decide), pv_u_eq, if_pos rfl]; exact hx1.1
      have e272 : pv_u (pv_u L 27 1 (L 25 1)) 27 2 (L 25 2) 27 2 = y12.2.2.2.2.1 := by rw [pv_u_eq, if_pos rfl]; exact hx1.2.1
      refine pv_aload_0 (pc := 59) dX11_tryOften_59 ?_
      refine pv_aload_0 (pc := 60) dX11_tryOften_60 ?_
      refine pv_getR (pc := 61) dX11_tryOften_61 fg_X11_38_11 rfl (by decide) (sx_16 hT) (rx_16_6 hR) ?_
      refine pv_iload_1 (pc := 64) dX11_tryOften_64 ?_
      refine pv_iload_2 (pc := 65) dX11_tryOften_65 ?_
      refine pv_bipush (pc := 66) (v := 12) dX11_tryOften_66 (by decide) ?_
      refine pv_callVq (pc := 68) dX11_tryOften_68 mgX11_goOn lv_X11_401_11 (by decide) (sx_16 hT) (by omega) (c_go_12 h12 (T := c12) (s1 := y12.2) e24b hW hX2 (hl_25 hT hR) (Or.inl rfl) hb (by omega) hx2 (by omega)) rfl rfl (by decide) (fun v t I L Rf hq => ?_)
      obtain ⟨rfl, rfl, rfl, hf3, hx3⟩ := hq
      refine pv_iload_2 (pc := 71) dX11_tryOften_71 ?_
      refine pv_icmp_ge (pc := 72) (tgt := 77) dX11_tryOften_72 (by decide) (fun h72 => ?_) (fun h72 => ?_)
      · refine pv_iinc_4 (pc := 77) (v := _ + (-24)) dX11_tryOften_77 rfl (by decide) rfl ?_
        have f24 : y24.1 = n.toNatClampNeg := by
          have f1 : ¬ Int32.ofNat y24.1 < n := by first | exact h72 | exact fun q => h72 q
          exact Classical.not_not.mp (fun q => f1 ((of_lt (go_lex e24) n0 n160).mpr q))
        have hk3 := hk2.tr (hf3.kC (Or.inl rfl))
        have hX3 := hX.scr hk3
        have e211 : L 21 1 = K 0 0 := hX3.2.2.1.1
        have e212 : L 21 2 = K 0 1 := hX3.2.2.1.2.1
        have g271 : L 27 1 = y12.2.2.2.1 := (hf3.2 27 1 (by decide)).trans e271
        have g272 : L 27 2 = y12.2.2.2.2.1 := (hf3.2 27 2 (by decide)).trans e272
        exact H80 I L hk3 hx3 e211 e212 g271 g272 f12 f24
      · refine pv_iconst (pc := 75) (v := 0) dX11_tryOften_75 (by decide) ?_
        refine pv_iret (pc := 76) dX11_tryOften_76 rfl rfl ?_
        have f1 : Int32.ofNat y24.1 < n := by first | exact h72 | exact Classical.not_not.mp h72
        have hno := (of_lt (go_lex e24) n0 n160).mp f1
        exact ⟨Or.inr ⟨rfl, go_nox e24 hno (by omega)⟩, rfl, rfl, hk2.tr (hf3.kC (Or.inl rfl))⟩
    · refine pv_iconst (pc := 36) (v := 0) dX11_tryOften_36 (by decide) ?_
      refine pv_iret (pc := 37) dX11_tryOften_37 rfl rfl ?_
      have f1 : Int32.ofNat y12.1 < n := by first | exact h33 | exact Classical.not_not.mp h33
      have hno := (of_lt (go_lex e12) n0 n160).mp f1
      exact ⟨Or.inr ⟨rfl, go_nox e12 hno (by omega)⟩, rfl, rfl, hk0.tr (hf1.kC (Or.inl rfl))⟩
  · rw [i_lt, q36] at g36
    have u36 : u.toInt ≤ 36 := by omega
    have g36 : ¬ (36 : Int32) < u := by rw [i_lt, q36]; exact g36
    refine pv_aload_0 (pc := 0) dX11_tryOften_0 ?_
    refine pv_getR (pc := 1) dX11_tryOften_1 fg_X11_38_11 rfl (by decide) (sx_16 hT) (rx_16_6 hR) ?_
    refine pv_aload_0 (pc := 4) dX11_tryOften_4 ?_
    refine pv_getR (pc := 5) dX11_tryOften_5 fg_X11_31_11 rfl (by decide) (sx_16 hT) (rx_16_4 hR) ?_
    refine pv_callVq (pc := 8) dX11_tryOften_8 mgX4_takeFrom lv_X11_169_4 (by decide) (sx_25 hT) (by omega) (c_tk_25_21 hT hR hxh (by omega)) rfl rfl (by decide) (fun v t I L Rf hq => ?_)
    obtain ⟨rfl, rfl, rfl, hf0, hx0⟩ := hq
    have hk0 : kC _ _ I L := hf0.kC (Or.inl rfl)
    have hX0 := hX.scr hk0
    refine pv_iload_3 (pc := 11) dX11_tryOften_11 ?_
    refine pv_istore_4 (pc := 12) dX11_tryOften_12 (by decide) rfl ?_
    refine pv_iload_3 (pc := 14) dX11_tryOften_14 ?_
    refine pv_bipush (pc := 15) (v := 36) dX11_tryOften_15 (by decide) ?_
    refine pv_icmp_le (pc := 17) (tgt := 167) dX11_tryOften_17 (by decide) (fun h17 => ?_) (fun h17 => absurd h17 g36)
    refine pv_aload_0 (pc := 167) dX11_tryOften_167 ?_
    refine pv_getR (pc := 168) dX11_tryOften_168 fg_X11_38_11 rfl (by decide) (sx_16 hT) (rx_16_6 hR) ?_
    refine pv_getL (pc := 171) dX11_tryOften_171 fg_X11_186_4 (by decide) (sx_25 hT) ?_
    refine pv_aload_0 (pc := 174) dX11_tryOften_174 ?_
    refine pv_getR (pc := 175) dX11_tryOften_175 fg_X11_38_11 rfl (by decide) (sx_16 hT) (rx_16_6 hR) ?_
    refine pv_getL (pc := 178) dX11_tryOften_178 fg_X11_190_4 (by decide) (sx_25 hT) ?_
    refine pv_ldc2 (pc := 181) dX11_tryOften_181 k_X11_348 ?_
    refine pv_callS1 (pc := 184) dX11_tryOften_184 mgX11_isWide ls_X11_350 (by omega) (c_X11_isWide ) rfl rfl (by decide) ?_
    refine pv_if_ne (pc := 187) (tgt := 210) dX11_tryOften_187 (by decide) (fun h187 => absurd h187 (not_not_intro (by rw [show L 25 1 = _ from hx0.1, show L 25 2 = _ from hx0.2.1, wide_no hW.2.2.1]; rfl))) (fun h187 => ?_)
    refine pv_aload_0 (pc := 190) dX11_tryOften_190 ?_
    refine pv_aload_0 (pc := 191) dX11_tryOften_191 ?_
    refine pv_getR (pc := 192) dX11_tryOften_192 fg_X11_38_11 rfl (by decide) (sx_16 hT) (rx_16_6 hR) ?_
    refine pv_iload_1 (pc := 195) dX11_tryOften_195 ?_
    refine pv_iload_2 (pc := 196) dX11_tryOften_196 ?_
    refine pv_iload_4 (pc := 197) dX11_tryOften_197 ?_
    refine pv_topv2 (y := Int32.ofNat U) (by rw [← Int32.toInt_inj, i_of (by omega)]; omega) ?_
    refine pv_callVq (pc := 199) dX11_tryOften_199 mgX11_goOn lv_X11_401_11 (by decide) (sx_16 hT) (by omega) (c_go_at (T := U) (s1 := y_0 J K) ez hW hX0 (hl_25 hT hR) (Or.inl rfl) hb (by omega) hx0 (by omega)) rfl rfl (by decide) (fun v t I L Rf hq => ?_)
    obtain ⟨rfl, rfl, rfl, hfe, hxe⟩ := hq
    refine pv_iload_2 (pc := 202) dX11_tryOften_202 ?_
    refine pv_icmp_ne (pc := 203) (tgt := 210) dX11_tryOften_203 (by decide) (fun h203 => ?_) (fun h203 => ?_)
    · refine pv_iconst (pc := 210) (v := 0) dX11_tryOften_210 (by decide) ?_
      refine pv_iret (pc := 211) dX11_tryOften_211 rfl rfl ?_
      obtain ⟨hcmp1, hcmp2⟩ := of_eq (a := z.1) (n := n) (by have := go_lex ez; omega) n0
      first
        | (have f1 : Int32.ofNat z.1 = n := by first | exact h203 | exact Classical.not_not.mp h203
           have hyes := hcmp1 f1
           rw [ez] at hyes hxe
           exact ⟨Or.inl ⟨rfl, hyes, _, hxe, rfl, rfl, rfl⟩, rfl, rfl, hk0.tr (hfe.kC (Or.inl rfl))⟩)
        | (have f1 : ¬ Int32.ofNat z.1 = n := h203
           have hno := fun q => f1 (hcmp2 q)
           rw [ez] at hno
           exact ⟨Or.inr ⟨rfl, hno⟩, rfl, rfl, hk0.tr (hfe.kC (Or.inl rfl))⟩)
    · refine pv_iconst (pc := 206) (v := 1) dX11_tryOften_206 (by decide) ?_
      refine pv_goto (pc := 207) (tgt := 211) dX11_tryOften_207 (by decide) ?_
      refine pv_iret (pc := 211) dX11_tryOften_211 rfl rfl ?_
      obtain ⟨hcmp1, hcmp2⟩ := of_eq (a := z.1) (n := n) (by have := go_lex ez; omega) n0
      first
        | (have f1 : Int32.ofNat z.1 = n := by first | exact h203 | exact Classical.not_not.mp h203
           have hyes := hcmp1 f1
           rw [ez] at hyes hxe
           exact ⟨Or.inl ⟨rfl, hyes, _, hxe, rfl, rfl, rfl⟩, rfl, rfl, hk0.tr (hfe.kC (Or.inl rfl))⟩)
        | (have f1 : ¬ Int32.ofNat z.1 = n := h203
           have hno := fun q => f1 (hcmp2 q)
           rw [ez] at hno
           exact ⟨Or.inr ⟨rfl, hno⟩, rfl, rfl, hk0.tr (hfe.kC (Or.inl rfl))⟩)

