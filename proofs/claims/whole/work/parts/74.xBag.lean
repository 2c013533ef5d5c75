/-! the class: bag -/
theorem c_whole_at {G : pv_G} {d k j : Nat} {v : Int64} {t : pv_T} {I : pv_I} {L : pv_L} {Rf : pv_R} (hT : sh_ok t) (hR : rf_ok Rf) (hs8 : k < 8) (hd : 1 ≤ d) (hj : (j : Int) < (I (45 + 2 * k) 2).toInt) (h160 : (I (45 + 2 * k) 2).toInt ≤ 160) (hv : L (46 + 2 * k) j = v) : pv_Mt G mX8_whole d 0 0 [.ref (45 + 2 * k), .int (Int32.ofNat j)] t I L Rf (pv_is (some (.long v)) t I L Rf) := by
  have h := c_X8_whole (G := G) (d := d) (i := Int32.ofNat j) (k := k) (I := I) (L := L) hT hR hs8 hd
  have e : x_has I k (Int32.ofNat j) = true := by
    have e0 := i_of (k := j) (by omega)
    have q0 : (0 : Int32).toInt = 0 := by decide
    have q1 : (160 : Int32).toInt = 160 := by decide
    unfold x_has
    simp only [Bool.and_eq_true, decide_eq_true_eq, i_le, i_lt, e0, q0, q1]
    omega
  rw [if_pos e, i_nat (by omega), hv] at h
  exact h
theorem x_neg10 (x : Int32) : -10 + - -x = x - 10 := by grind
theorem x_bg2 {n z : Int32} (h0 : 0 ≤ n.toInt) (hz : 0 ≤ z.toInt ∧ z.toInt ≤ 160) : z.toInt64 < 2 * n.toInt64 ↔ z / 2 < n := by
  have hn := Int32.toInt_lt n
  have e1 : (z / 2).toInt = z.toInt / 2 := by
    rw [Int32.toInt_div, show (2 : Int32).toInt = 2 by decide, Int.tdiv_eq_ediv_of_nonneg hz.1, Int.bmod_eq_of_le] <;> omega
  have e2 : (2 * n.toInt64).toInt = 2 * n.toInt := by
    rw [Int64.toInt_mul, Int32.toInt_toInt64, show (2 : Int64).toInt = 2 by decide, l64 (by omega)]
  rw [Int64.lt_iff_toInt_lt, e2, Int32.toInt_toInt64, i_lt, e1]
  omega
theorem gd_num {x : Int64 × Int64} (h : s_num x.1 x.2 = true) : gd (2 ^ 42) x := by
  obtain ⟨h1, h2, h3, h4, h5⟩ := (s_num_iff _ _).mp h
  refine ⟨h1, by omega, fun q => ?_, ?_⟩
  · rw [if_pos q] at h5; exact h5
  · split at h5
    · next q => rw [q, h5]; decide
    · exact h5
theorem gds_num {C : Nat → Int64} {n : Nat} (h : w_bgN C n = true) : gds (2 ^ 42) (w_bg C n) := by
  intro x hx
  unfold w_bg at hx
  obtain ⟨j, hj, rfl⟩ := List.mem_map.mp hx
  exact gd_num ((w_bgN_iff C n).mp h j (List.mem_range.mp hj))
def iB (I : pv_I) (L : pv_L) (C : Nat → Int64) (j : Nat) : Prop := I 29 5 = Int32.ofNat j ∧ I 32 0 = 1 ∧ I 32 1 = 1 ∧ I 32 2 = 1 ∧ I 29 10 = 1000 ∧ I 29 11 = -1 ∧ ∀ i, i < j → L 30 i = C (2 * i) ∧ L 31 i = C (2 * i + 1)
theorem iB.bg {I : pv_I} {L : pv_L} {C : Nat → Int64} {j : Nat} (h : iB I L C j) : sBg L 0 (w_bg C j) := by
  intro i x hx
  have hi := (List.getElem?_eq_some_iff.mp hx).1
  rw [bg_len] at hi
  rw [bg_get hi] at hx
  cases hx
  rw [Nat.mul_zero, Nat.zero_add]
  exact h.2.2.2.2.2.2 i hi
theorem iB.add {I : pv_I} {L : pv_L} {C : Nat → Int64} {j : Nat} (h : iB I L C j) : iB (pv_u I 29 5 (Int32.ofNat (j + 1))) (pv_u (pv_u L 30 j (C (2 * j))) 31 j (C (2 * j + 1))) C (j + 1) := by
  obtain ⟨h1, h2, h3, h4, h5, h6, h7⟩ := h
  refine ⟨by rw [pv_u_eq, if_pos rfl], by rw [pv_u_o _ (by omega)]; exact h2, by rw [pv_u_o _ (by omega)]; exact h3, by rw [pv_u_o _ (by omega)]; exact h4, by rw [pv_u_o _ (by omega)]; exact h5, by rw [pv_u_o _ (by omega)]; exact h6, fun i hi => ?_⟩
  by_cases e : i = j
  · subst e
    rw [pv_u_o _ (by omega), pv_u_eq, if_pos rfl, pv_u_eq, if_pos rfl]; exact ⟨rfl, rfl⟩
  · rw [pv_u_o _ (by omega), pv_u_o _ (by omega), pv_u_o _ (by omega), pv_u_o _ (by omega)]; exact h7 i (by omega)

set_option maxRecDepth 100000 in
set_option maxHeartbeats 4000000 in
theorem l_xbg {G : pv_G} {d : Nat} {Q : pv_Q} {K : pv_L} {s n k i z5 : Int32} {t : pv_T} {I0 : pv_I} {L0 : pv_L} {Rf : pv_R} (hT : sh_ok t) (hR : rf_ok Rf) (hs8 : s.toNatClampNeg < 8) (h0 : 0 ≤ n.toInt) (hn : n.toInt ≤ 4) (hd : 20 ≤ d) (hz : 2 * n.toInt ≤ (I0 (45 + 2 * s.toNatClampNeg) 2).toInt ∧ (I0 (45 + 2 * s.toNatClampNeg) 2).toInt ≤ 160) (hcell : ∀ j, j < 160 → L0 (46 + 2 * s.toNatClampNeg) j = K (1 + s.toNatClampNeg) j)
    (hQ : ∀ I L j l8 l10, kC I0 L0 I L → iB I L (K (1 + s.toNatClampNeg)) n.toNatClampNeg → w_bgN (K (1 + s.toNatClampNeg)) n.toNatClampNeg = true → pv_V G mX11_bag d 0 0 Q 0 0 165 [.ref 16, .int s, .int n, .int k, .int i, .int z5, .ref (45 + 2 * s.toNatClampNeg), .int (Int32.ofNat j), l8, .retAddr 0, l10, .retAddr 0] [] t I L Rf) (hF : ∀ I L, kC I0 L0 I L → ¬ w_bgN (K (1 + s.toNatClampNeg)) n.toNatClampNeg = true → Q (some (.int (-10 + -6))) t (x_ref I 6) L Rf) : ∀ (m j : Nat) (I : pv_I) (L : pv_L) (l8 l10 : Value), j + m = n.toNatClampNeg → kC I0 L0 I L → iB I L (K (1 + s.toNatClampNeg)) j → w_bgN (K (1 + s.toNatClampNeg)) j = true → pv_V G mX11_bag d 0 0 Q 0 0 101 [.ref 16, .int s, .int n, .int k, .int i, .int z5, .ref (45 + 2 * s.toNatClampNeg), .int (Int32.ofNat j), l8, .retAddr 0, l10, .retAddr 0] [] t I L Rf := by
  have hnl := i_lit n
  intro m
  induction m with
  | zero =>
    intro j I L l8 l10 hj hc hi hv
    skip
    refine pv_iload_7 (pc := 101) dX11_bag_101 ?_
    refine pv_iload_2 (pc := 103) dX11_bag_103 ?_
    refine pv_icmp_ge (pc := 104) (tgt := 165) dX11_bag_104 (by decide) (fun h104 => ?_) (fun h104 => absurd h104 (by rw [i_lt, i_of (by omega)]; omega))
    rw [show j = n.toNatClampNeg by omega] at hi hv
    exact hQ _ _ _ _ _ hc hi hv
  | succ m ih =>
    intro j I L l8 l10 hj hc hi hv
    skip
    refine pv_iload_7 (pc := 101) dX11_bag_101 ?_
    refine pv_iload_2 (pc := 103) dX11_bag_103 ?_
    refine pv_icmp_ge (pc := 104) (tgt := 165) dX11_bag_104 (by decide) (fun h104 => absurd h104 (not_not_intro (by rw [i_lt, i_of (by omega)]; omega))) (fun h104 => ?_)
    refine pv_aload_6 (pc := 107) dX11_bag_107 ?_
    refine pv_iconst (pc := 109) (v := 2) dX11_bag_109 (by decide) ?_
    refine pv_iload_7 (pc := 110) dX11_bag_110 ?_
    refine pv_imul (pc := 112) dX11_bag_112 ?_
    refine pv_topv2 (y := Int32.ofNat (2 * j)) (by rw [show (2 : Int32) = Int32.ofNat 2 from rfl, ← Int32.ofNat_mul]) ?_
    refine pv_callV1 (pc := 113) dX11_bag_113 mgX8_whole lv_X11_110_8 (by omega) (sx_sh hT hs8) (by omega) (c_whole_at (v := K (1 + s.toNatClampNeg) (2 * j)) hT hR hs8 (by omega) (by rw [hc.1 _ 2 (by omega) (by omega)]; omega) (by rw [hc.1 _ 2 (by omega) (by omega)]; omega) (by rw [hc.2 _ _ (by omega)]; exact hcell _ (by omega))) rfl rfl (by decide) ?_
    refine pv_lstore_8 (pc := 116) dX11_bag_116 (by decide) rfl ?_
    refine pv_aload_6 (pc := 118) dX11_bag_118 ?_
    refine pv_iconst (pc := 120) (v := 2) dX11_bag_120 (by decide) ?_
    refine pv_iload_7 (pc := 121) dX11_bag_121 ?_
    refine pv_imul (pc := 123) dX11_bag_123 ?_
    refine pv_iconst (pc := 124) (v := 1) dX11_bag_124 (by decide) ?_
    refine pv_iadd (pc := 125) dX11_bag_125 ?_
    refine pv_topv2 (y := Int32.ofNat (2 * j + 1)) (by rw [show (2 : Int32) = Int32.ofNat 2 from rfl, ← Int32.ofNat_mul, i_inc]) ?_
    refine pv_callV1 (pc := 126) dX11_bag_126 mgX8_whole lv_X11_110_8 (by omega) (sx_sh hT hs8) (by omega) (c_whole_at (v := K (1 + s.toNatClampNeg) (2 * j + 1)) hT hR hs8 (by omega) (by rw [hc.1 _ 2 (by omega) (by omega)]; omega) (by rw [hc.1 _ 2 (by omega) (by omega)]; omega) (by rw [hc.2 _ _ (by omega)]; exact hcell _ (by omega))) rfl rfl (by decide) ?_
    refine pv_lstore_10 (pc := 129) dX11_bag_129 (by decide) rfl ?_
    refine pv_lload_8 (pc := 131) dX11_bag_131 ?_
    refine pv_lload_10 (pc := 133) dX11_bag_133 ?_
    refine pv_callS1 (pc := 135) dX11_bag_135 mgX11_isNumber ls_X11_161 (by omega) (c_X11_isNumber hT (by omega)) rfl rfl (by decide) ?_
    refine pv_if_ne (pc := 138) (tgt := 148) dX11_bag_138 (by decide) (fun h138 => ?_) (fun h138 => ?_)
    · have hnum : s_num (K (1 + s.toNatClampNeg) (2 * j)) (K (1 + s.toNatClampNeg) (2 * j + 1)) = true := (pv_b_n0 _).mp h138
      refine pv_aload_0 (pc := 148) dX11_bag_148 ?_
      refine pv_getR (pc := 149) dX11_bag_149 fg_X11_47_11 rfl (by decide) (sx_16 hT) (rx_16_8 hR) ?_
      refine pv_lload_8 (pc := 152) dX11_bag_152 ?_
      refine pv_lload_10 (pc := 154) dX11_bag_154 ?_
      refine pv_callV0 (pc := 156) dX11_bag_156 mgX7_add lv_X11_236_7 (by decide) (sx_29 hT) (by omega) (c_X7_add (n := j) hT hR (by omega) hi.1) rfl rfl (by decide) ?_
      refine pv_iinc_7 (pc := 159) (v := _ + 1) dX11_bag_159 rfl (by decide) rfl ?_
      refine pv_goto (pc := 162) (tgt := 101) dX11_bag_162 (by decide) ?_
      rw [i_inc]
      refine ih (j + 1) _ _ _ _ (by omega) ((hc.uI 29 5 _ (by omega)).uL 30 _ _ (by omega) |>.uL 31 _ _ (by omega)) hi.add ?_
      rw [w_bgN, hv, hnum]; rfl
    · have hnum : ¬ s_num (K (1 + s.toNatClampNeg) (2 * j)) (K (1 + s.toNatClampNeg) (2 * j + 1)) = true := fun z => absurd (by first | exact h138 | exact Classical.not_not.mp h138) (by rw [z]; decide)
      refine pv_aload_0 (pc := 141) dX11_bag_141 ?_
      refine pv_bipush (pc := 142) (v := 6) dX11_bag_142 (by decide) ?_
      refine pv_callV1 (pc := 144) dX11_bag_144 mgX11_refuseTen lv_X11_230_11 (by decide) (sx_16 hT) (by omega) (c_X11_refuseTen (k := 6) hT hR (by decide) (by unfold vp_in; decide) (by omega)) rfl rfl (by decide) ?_
      refine pv_iret (pc := 147) dX11_bag_147 rfl rfl ?_
      exact hF _ _ hc (fun q => hnum ((w_bgN_iff _ _).mp q j (by omega)))

set_option maxRecDepth 100000 in
set_option maxHeartbeats 4000000 in
theorem c_X11_bag {G : pv_G} {d : Nat} {J : pv_I} {K : pv_L} {s n k i : Int32} {t : pv_T} {I : pv_I} {L : pv_L} {Rf : pv_R} (hW : WF J K) (hX : RX J K t I L Rf)  (hd : 60 ≤ d) : pv_Mt G mX11_bag d 0 0 [.ref 16, .int s, .int n, .int k, .int i] t I L Rf (qX (S_bag J K s n k i) I L) := by
  refine pv_mt mgX11_bag.2.2.2.2.2 [.ref 16, .int s, .int n, .int k, .int i, .retAddr 0, .retAddr 0, .retAddr 0, .retAddr 0, .retAddr 0, .retAddr 0, .retAddr 0] rfl (Nat.le_of_ble_eq_true rfl) ?_
  have hT := hX.1
  have hR := hX.2.1
  obtain ⟨-, -, ⟨xp, xq, xn, xst, xsp, xsd, xc⟩, xf, xs, xb, xi⟩ := id hX
  by_cases hs : s_sh s = true
  · have hin := s_sh_in hs
    have hs8 : s.toNatClampNeg < 8 := (pv_in_lt hin).2.2.1
    have hkd := x_kind hW hX hs8
    refine pv_aload_0 (pc := 0) dX11_bag_0 ?_
    refine pv_iload_1 (pc := 1) dX11_bag_1 ?_
    refine pv_callV1 (pc := 2) dX11_bag_2 mgX11_noRow lv_X11_78_11 (by decide) (sx_16 hT) (by omega) (c_X11_noRow hW hX (by omega)) rfl rfl (by decide) ?_
    refine pv_istore_5 (pc := 5) dX11_bag_5 (by decide) rfl ?_
    refine pv_aload_0 (pc := 7) dX11_bag_7 ?_
    refine pv_iload_1 (pc := 8) dX11_bag_8 ?_
    refine pv_callV1 (pc := 9) dX11_bag_9 mgX11_shelfAt lv_X11_66_11 (by decide) (sx_16 hT) (by omega) (c_X11_shelfAt1 hT hR hin) rfl rfl (by decide) ?_
    refine pv_astore_6 (pc := 12) dX11_bag_12 (by decide) rfl ?_
    refine pv_iload_5 (pc := 14) dX11_bag_14 ?_
    refine pv_if_ne (pc := 16) (tgt := 24) dX11_bag_16 (by decide) (fun h16 => ?_) (fun h16 => ?_)
    · refine pv_aload_0 (pc := 24) dX11_bag_24 ?_
      refine pv_iload_5 (pc := 25) dX11_bag_25 ?_
      refine pv_callV1 (pc := 27) dX11_bag_27 mgX11_refuseTen lv_X11_230_11 (by decide) (sx_16 hT) (by omega) (c_X11_refuseTen (k := (-(w_wants J s)).toNatClampNeg) hT hR rfl (w_wants_in J s) (by omega)) rfl rfl (by decide) ?_
      refine pv_iret (pc := 30) dX11_bag_30 rfl rfl ?_
      have hw0 : ¬ w_wants J s = 0 := by
        intro q
        have f1 : ¬ -(w_wants J s) = 0 := by first | exact h16 | exact Classical.not_not.mp h16
        exact f1 (by rw [q]; decide)
      refine qX.ref hX (w_wants_n J s) ?_
      unfold S_bag; rw [if_neg hw0, x_neg10]
    · refine pv_aload_6 (pc := 19) dX11_bag_19 ?_
      refine pv_ifnonnull (pc := 21) (tgt := 31) dX11_bag_21 (by decide) ?_
      have hw0 : w_wants J s = 0 := by
        have f1 : -(w_wants J s) = 0 := by first | exact h16 | exact Classical.not_not.mp h16
        grind
      obtain ⟨k1, k2, k3, k4, k5, k6, k7⟩ : J 6 s.toNatClampNeg = 1 ∧ I (45 + 2 * s.toNatClampNeg) 1 = J 7 s.toNatClampNeg ∧ I (45 + 2 * s.toNatClampNeg) 2 = J 8 s.toNatClampNeg ∧ I (45 + 2 * s.toNatClampNeg) 3 = -1 ∧ ¬ J 7 s.toNatClampNeg = -1 ∧ (0 ≤ (J 8 s.toNatClampNeg).toInt ∧ (J 8 s.toNatClampNeg).toInt ≤ 160) ∧ ∀ j, j < 160 → L (46 + 2 * s.toNatClampNeg) j = K (1 + s.toNatClampNeg) j := by
        rcases hkd with ⟨k1, k2⟩ | h | ⟨k1, k2⟩
        · have e := (w_wants_k (J := J) hs).1 k1; rw [hw0] at e; exact absurd e (by decide)
        · exact h
        · have e := (w_wants_k (J := J) hs).2.2 k1; rw [hw0] at e; exact absurd e (by decide)
      refine pv_iload_2 (pc := 31) dX11_bag_31 ?_
      refine pv_if_ge (pc := 32) (tgt := 41) dX11_bag_32 (by decide) (fun h32 => ?_) (fun h32 => ?_)
      · have n0 : 0 ≤ n.toInt := by have f1 := h32; rw [i_lt, Int32.toInt_zero] at f1; omega
        refine pv_ldc2 (pc := 41) dX11_bag_41 k_X11_312 ?_
        refine pv_iload_2 (pc := 44) dX11_bag_44 ?_
        refine pv_i2l (pc := 45) dX11_bag_45 ?_
        refine pv_lmul (pc := 46) dX11_bag_46 ?_
        refine pv_aload_6 (pc := 47) dX11_bag_47 ?_
        refine pv_getI (pc := 49) dX11_bag_49 fg_X11_314_8 rfl (by omega) (sx_sh hT hs8) ?_
        refine pv_i2l (pc := 52) dX11_bag_52 ?_
        refine pv_lcmp_le (pc := 53) (tgt := 63) dX11_bag_53 dX11_bag_54 (by decide) (fun h53 => ?_) (fun h53 => ?_)
        · have f2 : ¬ (J 8 s.toNatClampNeg) / 2 < n := by
            intro q
            have q1 := (x_bg2 n0 k6).mpr q
            rw [← k3] at q1
            exact absurd q1 (by first | exact h53 | exact not_lt_of_ge h53)
          refine pv_iload_2 (pc := 63) dX11_bag_63 ?_
          refine pv_if_eq (pc := 64) (tgt := 81) dX11_bag_64 (by decide) (fun h64 => ?_) (fun h64 => ?_)
          · refine pv_aload_0 (pc := 81) dX11_bag_81 ?_
            refine pv_bipush (pc := 82) (v := 6) dX11_bag_82 (by decide) ?_
            refine pv_callV1 (pc := 84) dX11_bag_84 mgX11_refuseTen lv_X11_230_11 (by decide) (sx_16 hT) (by omega) (c_X11_refuseTen (k := 6) hT hR (by decide) (by unfold vp_in; decide) (by omega)) rfl rfl (by decide) ?_
            refine pv_iret (pc := 87) dX11_bag_87 rfl rfl ?_
            have q0 : (0 : Int32).toInt = 0 := by decide
            have q1 : (1 : Int32).toInt = 1 := by decide
            have q4 : (4 : Int32).toInt = 4 := by decide
            have f3 : n < 1 ∨ 4 < n ∨ k < 0 ∨ ¬ k < n := by
              first
                | (have f1 : n = 0 := by first | exact h64 | exact Classical.not_not.mp h64
                   exact Or.inl (by rw [f1]; decide))
                | exact Or.inr (Or.inl (by first | exact h69 | exact Classical.not_not.mp h69))
                | exact Or.inr (Or.inr (Or.inl (by first | exact h73 | exact Classical.not_not.mp h73)))
                | exact Or.inr (Or.inr (Or.inr h78))
            refine qX.ref hX (by decide : 6 < 8) ?_
            unfold S_bag; rw [if_pos hw0, if_neg h32, if_neg f2, if_pos f3]; rfl
          · refine pv_iload_2 (pc := 67) dX11_bag_67 ?_
            refine pv_iconst (pc := 68) (v := 4) dX11_bag_68 (by decide) ?_
            refine pv_icmp_gt (pc := 69) (tgt := 81) dX11_bag_69 (by decide) (fun h69 => ?_) (fun h69 => ?_)
            · refine pv_aload_0 (pc := 81) dX11_bag_81 ?_
              refine pv_bipush (pc := 82) (v := 6) dX11_bag_82 (by decide) ?_
              refine pv_callV1 (pc := 84) dX11_bag_84 mgX11_refuseTen lv_X11_230_11 (by decide) (sx_16 hT) (by omega) (c_X11_refuseTen (k := 6) hT hR (by decide) (by unfold vp_in; decide) (by omega)) rfl rfl (by decide) ?_
              refine pv_iret (pc := 87) dX11_bag_87 rfl rfl ?_
              have q0 : (0 : Int32).toInt = 0 := by decide
              have q1 : (1 : Int32).toInt = 1 := by decide
              have q4 : (4 : Int32).toInt = 4 := by decide
              have f3 : n < 1 ∨ 4 < n ∨ k < 0 ∨ ¬ k < n := by
                first
                  | (have f1 : n = 0 := by first | exact h64 | exact Classical.not_not.mp h64
                     exact Or.inl (by rw [f1]; decide))
                  | exact Or.inr (Or.inl (by first | exact h69 | exact Classical.not_not.mp h69))
                  | exact Or.inr (Or.inr (Or.inl (by first | exact h73 | exact Classical.not_not.mp h73)))
                  | exact Or.inr (Or.inr (Or.inr h78))
              refine qX.ref hX (by decide : 6 < 8) ?_
              unfold S_bag; rw [if_pos hw0, if_neg h32, if_neg f2, if_pos f3]; rfl
            · refine pv_iload_3 (pc := 72) dX11_bag_72 ?_
              refine pv_if_lt (pc := 73) (tgt := 81) dX11_bag_73 (by decide) (fun h73 => ?_) (fun h73 => ?_)
              · refine pv_aload_0 (pc := 81) dX11_bag_81 ?_
                refine pv_bipush (pc := 82) (v := 6) dX11_bag_82 (by decide) ?_
                refine pv_callV1 (pc := 84) dX11_bag_84 mgX11_refuseTen lv_X11_230_11 (by decide) (sx_16 hT) (by omega) (c_X11_refuseTen (k := 6) hT hR (by decide) (by unfold vp_in; decide) (by omega)) rfl rfl (by decide) ?_
                refine pv_iret (pc := 87) dX11_bag_87 rfl rfl ?_
                have q0 : (0 : Int32).toInt = 0 := by decide
                have q1 : (1 : Int32).toInt = 1 := by decide
                have q4 : (4 : Int32).toInt = 4 := by decide
                have f3 : n < 1 ∨ 4 < n ∨ k < 0 ∨ ¬ k < n := by
                  first
                    | (have f1 : n = 0 := by first | exact h64 | exact Classical.not_not.mp h64
                       exact Or.inl (by rw [f1]; decide))
                    | exact Or.inr (Or.inl (by first | exact h69 | exact Classical.not_not.mp h69))
                    | exact Or.inr (Or.inr (Or.inl (by first | exact h73 | exact Classical.not_not.mp h73)))
                    | exact Or.inr (Or.inr (Or.inr h78))
                refine qX.ref hX (by decide : 6 < 8) ?_
                unfold S_bag; rw [if_pos hw0, if_neg h32, if_neg f2, if_pos f3]; rfl
              · refine pv_iload_3 (pc := 76) dX11_bag_76 ?_
                refine pv_iload_2 (pc := 77) dX11_bag_77 ?_
                refine pv_icmp_lt (pc := 78) (tgt := 88) dX11_bag_78 (by decide) (fun h78 => ?_) (fun h78 => ?_)
                · refine pv_aload_0 (pc := 88) dX11_bag_88 ?_
                  refine pv_getR (pc := 89) dX11_bag_89 fg_X11_47_11 rfl (by decide) (sx_16 hT) (rx_16_8 hR) ?_
                  refine pv_iconst (pc := 92) (v := 1) dX11_bag_92 (by decide) ?_
                  refine pv_iconst (pc := 93) (v := 1) dX11_bag_93 (by decide) ?_
                  refine pv_iconst (pc := 94) (v := 1) dX11_bag_94 (by decide) ?_
                  refine pv_callV0 (pc := 95) dX11_bag_95 mgX7_open lv_X11_233_7 (by decide) (sx_29 hT) (by omega) (c_X7_open hT hR) rfl rfl (by decide) ?_
                  refine pv_iconst (pc := 98) (v := 0) dX11_bag_98 (by decide) ?_
                  refine pv_istore_7 (pc := 99) dX11_bag_99 (by decide) rfl ?_
                  have q0 : (0 : Int32).toInt = 0 := by decide
                  have q1 : (1 : Int32).toInt = 1 := by decide
                  have q4 : (4 : Int32).toInt = 4 := by decide
                  have f3 : ¬ (n < 1 ∨ 4 < n ∨ k < 0 ∨ ¬ k < n) := by
                    rintro (g | g | g | g)
                    · have f1 : ¬ n = 0 := h64
                      rw [← Int32.toInt_inj] at f1
                      rw [i_lt] at g; omega
                    · exact h69 g
                    · exact h73 g
                    · exact g (by first | exact h78 | exact Classical.not_not.mp h78)
                  have n4 : n.toInt ≤ 4 := by
                    have f1 : ¬ 4 < n := h69
                    rw [i_lt] at f1; omega
                  have nl := i_lit n
                  have f4 : 2 * n.toInt ≤ (J 8 s.toNatClampNeg).toInt := by
                    have g : ¬ J 8 s.toNatClampNeg / 2 < n := f2
                    rw [← x_bg2 n0 k6] at g
                    have e2 : (2 * n.toInt64).toInt = 2 * n.toInt := by rw [Int64.toInt_mul, Int32.toInt_toInt64, show (2 : Int64).toInt = 2 by decide, l64 (by omega)]
                    rw [Int64.lt_iff_toInt_lt, e2, Int32.toInt_toInt64] at g; omega
                  refine l_xbg (K := K) (I0 := I) (L0 := L) hT hR hs8 n0 n4 (by omega) (by rw [k3]; exact ⟨f4, k6.2⟩) k7 (fun I1 L1 j l8 l10 hc1 hi1 hv1 => ?_) (fun I1 L1 hc1 hv1 => ?_) n.toNatClampNeg 0 _ _ _ _ (by omega) kC_open ⟨rfl, rfl, rfl, rfl, rfl, rfl, fun i hi => absurd hi (Nat.not_lt_zero _)⟩ (by rw [w_bgN])
                  rotate_left
                  · refine qX.scrref hX hc1 (by decide) ?_
                    unfold S_bag; rw [if_pos hw0, if_neg h32, if_neg f2, if_neg f3, if_neg hv1]; rfl
                  refine pv_aload_0 (pc := 165) dX11_bag_165 ?_
                  refine pv_getR (pc := 166) dX11_bag_166 fg_X11_47_11 rfl (by decide) (sx_16 hT) (rx_16_8 hR) ?_
                  refine pv_iload_3 (pc := 169) dX11_bag_169 ?_
                  refine pv_lconst (pc := 170) (v := 0) dX11_bag_170 (by decide) ?_
                  refine pv_lconst (pc := 171) (v := 1) dX11_bag_171 (by decide) ?_
                  refine pv_bipush (pc := 172) (v := 7) dX11_bag_172 (by decide) ?_
                  refine pv_callVq (pc := 174) dX11_bag_174 mgX7_find lv_X11_239_7 (by decide) (sx_29 hT) (by omega) (c_X7_find (c := fun _ => 1) (bg := w_bg (K (1 + s.toNatClampNeg)) n.toNatClampNeg) (M := 7) hT hR (by decide) c_ok_1 (by rw [bg_len]; omega) (by rw [bg_len]; exact hi1.1) hi1.2.1 hi1.2.2.1 hi1.2.2.2.1 hi1.bg ⟨hi1.2.2.2.2.1, hi1.2.2.2.2.2.1⟩ (by omega)) rfl rfl (by decide) (fun v t I L Rf hq => ?_)
                  obtain ⟨rfl, rfl, rfl, hk1, hB⟩ := hq
                  have kc := hc1.tr hk1
                  obtain ⟨bs, hbs⟩ : ∃ bs, bs = x_wlk (x_th 0 1 k 0) (fun _ => 1) 7 [] 0 (w_bg (K (1 + s.toNatClampNeg)) n.toNatClampNeg) none := ⟨_, rfl⟩
                  rw [← hbs] at hB
                  have eS : S_bag J K s n k i = S_foundAt J K i (bs.map fun b => b.1) := by
                    unfold S_bag
                    rw [if_pos hw0, if_neg h32, if_neg f2, if_neg f3, if_pos hv1, x_wlk_bag k _ (gds_num hv1), hbs]
                  rw [eS]
                  rcases bs with _ | b
                  · skip
                    refine pv_iload_4 (pc := 177) dX11_bag_177 ?_
                    refine pv_iconst (pc := 179) (v := (-1)) dX11_bag_179 (by decide) ?_
                    refine pv_icmp_ne (pc := 180) (tgt := 203) dX11_bag_180 (by decide) (fun h180 => ?_) (fun h180 => ?_)
                    · refine pv_aload_0 (pc := 203) dX11_bag_203 ?_
                      refine pv_iload_4 (pc := 204) dX11_bag_204 ?_
                      refine pv_callV1 (pc := 206) dX11_bag_206 mgX11_foundStep lv_X11_249_11 (by decide) (sx_16 hT) (by omega) (c_fs_no hT hR hB (fun q => by obtain ⟨x, q1, q2⟩ := q; cases q1) (by omega)) rfl rfl (by decide) ?_
                      refine pv_iret (pc := 209) dX11_bag_209 rfl rfl ?_
                      refine qX.scrref hX kc (by decide) ?_
                      show S_ref J K 5 (.int (-5 - 10)) = _
                      rw [x_t5]
                    · refine pv_aload_0 (pc := 183) dX11_bag_183 ?_
                      refine pv_getR (pc := 184) dX11_bag_184 fg_X11_47_11 rfl (by decide) (sx_16 hT) (rx_16_8 hR) ?_
                      refine pv_callV1 (pc := 187) dX11_bag_187 mgX7_isFound lv_X11_243_7 (by decide) (sx_29 hT) (by omega) (c_X7_isFound hT hR) rfl rfl (by decide) ?_
                      refine pv_if_eq (pc := 190) (tgt := 203) dX11_bag_190 (by decide) (fun h190 => ?_) (fun h190 => absurd h190 (not_not_intro (by rw [hB.2]; rfl)))
                      refine pv_aload_0 (pc := 203) dX11_bag_203 ?_
                      refine pv_iload_4 (pc := 204) dX11_bag_204 ?_
                      refine pv_callV1 (pc := 206) dX11_bag_206 mgX11_foundStep lv_X11_249_11 (by decide) (sx_16 hT) (by omega) (c_fs_no hT hR hB (fun q => by obtain ⟨x, q1, q2⟩ := q; cases q1) (by omega)) rfl rfl (by decide) ?_
                      refine pv_iret (pc := 209) dX11_bag_209 rfl rfl ?_
                      refine qX.scrref hX kc (by decide) ?_
                      show S_ref J K 5 (.int (-5 - 10)) = _
                      rw [x_t5]
                  · by_cases e : i = -1
                    · skip
                      refine pv_iload_4 (pc := 177) dX11_bag_177 ?_
                      refine pv_iconst (pc := 179) (v := (-1)) dX11_bag_179 (by decide) ?_
                      refine pv_icmp_ne (pc := 180) (tgt := 203) dX11_bag_180 (by decide) (fun h180 => absurd h180 (not_not_intro e)) (fun h180 => ?_)
                      refine pv_aload_0 (pc := 183) dX11_bag_183 ?_
                      refine pv_getR (pc := 184) dX11_bag_184 fg_X11_47_11 rfl (by decide) (sx_16 hT) (rx_16_8 hR) ?_
                      refine pv_callV1 (pc := 187) dX11_bag_187 mgX7_isFound lv_X11_243_7 (by decide) (sx_29 hT) (by omega) (c_X7_isFound hT hR) rfl rfl (by decide) ?_
                      refine pv_if_eq (pc := 190) (tgt := 203) dX11_bag_190 (by decide) (fun h190 => absurd h190 (by rw [hB.2.1, decide_eq_true (i_n1 (by have := hB.1; omega))]; decide)) (fun h190 => ?_)
                      refine pv_aload_0 (pc := 193) dX11_bag_193 ?_
                      refine pv_getR (pc := 194) dX11_bag_194 fg_X11_47_11 rfl (by decide) (sx_16 hT) (rx_16_8 hR) ?_
                      refine pv_getI (pc := 197) dX11_bag_197 fg_X11_246_7 rfl (by decide) (sx_29 hT) ?_
                      refine pv_goto (pc := 200) (tgt := 209) dX11_bag_200 (by decide) ?_
                      refine pv_iret (pc := 209) dX11_bag_209 rfl rfl ?_
                      refine qX.scr hX kc ?_
                      rw [e]
                      show S_foundAt J K (-1) (some b.1) = _
                      rw [S_found_s, if_neg (i_m1 (by have := hB.1; omega)), if_pos rfl]
                      exact congrArg (fun z => ((Value.int z, J, K) : SR)) hB.2.1.symm
                    · by_cases g0 : i < 0
                      · skip
                        refine pv_iload_4 (pc := 177) dX11_bag_177 ?_
                        refine pv_iconst (pc := 179) (v := (-1)) dX11_bag_179 (by decide) ?_
                        refine pv_icmp_ne (pc := 180) (tgt := 203) dX11_bag_180 (by decide) (fun h180 => ?_) (fun h180 => absurd h180 e)
                        refine pv_aload_0 (pc := 203) dX11_bag_203 ?_
                        refine pv_iload_4 (pc := 204) dX11_bag_204 ?_
                        refine pv_callV1 (pc := 206) dX11_bag_206 mgX11_foundStep lv_X11_249_11 (by decide) (sx_16 hT) (by omega) (c_fs_no hT hR hB (fun q => by obtain ⟨x, q1, q2, q3⟩ := q; exact q2 g0) (by omega)) rfl rfl (by decide) ?_
                        refine pv_iret (pc := 209) dX11_bag_209 rfl rfl ?_
                        refine qX.scrref hX kc (by decide) ?_
                        show S_foundAt J K i (some b.1) = _
                        rw [S_found_s, if_pos (Or.inl (i_lm g0 e)), x_t5]
                      · by_cases g1 : i < Int32.ofNat b.1.length
                        · skip
                          refine pv_iload_4 (pc := 177) dX11_bag_177 ?_
                          refine pv_iconst (pc := 179) (v := (-1)) dX11_bag_179 (by decide) ?_
                          refine pv_icmp_ne (pc := 180) (tgt := 203) dX11_bag_180 (by decide) (fun h180 => ?_) (fun h180 => absurd h180 e)
                          refine pv_aload_0 (pc := 203) dX11_bag_203 ?_
                          refine pv_iload_4 (pc := 204) dX11_bag_204 ?_
                          refine pv_callV1 (pc := 206) dX11_bag_206 mgX11_foundStep lv_X11_249_11 (by decide) (sx_16 hT) (by omega) (c_fs_is hT hR hB g0 g1 (by omega)) rfl rfl (by decide) ?_
                          refine pv_iret (pc := 209) dX11_bag_209 rfl rfl ?_
                          refine qX.scr hX kc ?_
                          show S_foundAt J K i (some b.1) = _
                          rw [S_found_s, if_neg (fun q => q.elim (i_nm g0) (fun r => r g1)), if_neg e]
                        · skip
                          refine pv_iload_4 (pc := 177) dX11_bag_177 ?_
                          refine pv_iconst (pc := 179) (v := (-1)) dX11_bag_179 (by decide) ?_
                          refine pv_icmp_ne (pc := 180) (tgt := 203) dX11_bag_180 (by decide) (fun h180 => ?_) (fun h180 => absurd h180 e)
                          refine pv_aload_0 (pc := 203) dX11_bag_203 ?_
                          refine pv_iload_4 (pc := 204) dX11_bag_204 ?_
                          refine pv_callV1 (pc := 206) dX11_bag_206 mgX11_foundStep lv_X11_249_11 (by decide) (sx_16 hT) (by omega) (c_fs_no hT hR hB (fun q => by obtain ⟨x, q1, q2, q3⟩ := q; cases q1; exact g1 q3) (by omega)) rfl rfl (by decide) ?_
                          refine pv_iret (pc := 209) dX11_bag_209 rfl rfl ?_
                          refine qX.scrref hX kc (by decide) ?_
                          show S_foundAt J K i (some b.1) = _
                          rw [S_found_s, if_pos (Or.inr g1), x_t5]
                · refine pv_aload_0 (pc := 81) dX11_bag_81 ?_
                  refine pv_bipush (pc := 82) (v := 6) dX11_bag_82 (by decide) ?_
                  refine pv_callV1 (pc := 84) dX11_bag_84 mgX11_refuseTen lv_X11_230_11 (by decide) (sx_16 hT) (by omega) (c_X11_refuseTen (k := 6) hT hR (by decide) (by unfold vp_in; decide) (by omega)) rfl rfl (by decide) ?_
                  refine pv_iret (pc := 87) dX11_bag_87 rfl rfl ?_
                  have q0 : (0 : Int32).toInt = 0 := by decide
                  have q1 : (1 : Int32).toInt = 1 := by decide
                  have q4 : (4 : Int32).toInt = 4 := by decide
                  have f3 : n < 1 ∨ 4 < n ∨ k < 0 ∨ ¬ k < n := by
                    first
                      | (have f1 : n = 0 := by first | exact h64 | exact Classical.not_not.mp h64
                         exact Or.inl (by rw [f1]; decide))
                      | exact Or.inr (Or.inl (by first | exact h69 | exact Classical.not_not.mp h69))
                      | exact Or.inr (Or.inr (Or.inl (by first | exact h73 | exact Classical.not_not.mp h73)))
                      | exact Or.inr (Or.inr (Or.inr h78))
                  refine qX.ref hX (by decide : 6 < 8) ?_
                  unfold S_bag; rw [if_pos hw0, if_neg h32, if_neg f2, if_pos f3]; rfl
        · refine pv_aload_0 (pc := 57) dX11_bag_57 ?_
          refine pv_iconst (pc := 58) (v := 5) dX11_bag_58 (by decide) ?_
          refine pv_callV1 (pc := 59) dX11_bag_59 mgX11_refuseTen lv_X11_230_11 (by decide) (sx_16 hT) (by omega) (c_X11_refuseTen (k := 5) hT hR (by decide) (by unfold vp_in; decide) (by omega)) rfl rfl (by decide) ?_
          refine pv_iret (pc := 62) dX11_bag_62 rfl rfl ?_
          have f2 : (J 8 s.toNatClampNeg) / 2 < n := by
            refine (x_bg2 n0 k6).mp ?_
            rw [← k3]
            exact (by first | exact h53 | exact Classical.not_not.mp h53)
          refine qX.ref hX (by decide : 5 < 8) ?_
          unfold S_bag; rw [if_pos hw0, if_neg h32, if_pos f2]; rfl
      · refine pv_aload_0 (pc := 35) dX11_bag_35 ?_
        refine pv_iconst (pc := 36) (v := 4) dX11_bag_36 (by decide) ?_
        refine pv_callV1 (pc := 37) dX11_bag_37 mgX11_refuseTen lv_X11_230_11 (by decide) (sx_16 hT) (by omega) (c_X11_refuseTen (k := 4) hT hR (by decide) (by unfold vp_in; decide) (by omega)) rfl rfl (by decide) ?_
        refine pv_iret (pc := 40) dX11_bag_40 rfl rfl ?_
        refine qX.ref hX (by decide : 4 < 8) ?_
        unfold S_bag; rw [if_pos hw0, if_pos (by first | exact h32 | exact Classical.not_not.mp h32)]; rfl
  · have hs0 : s_sh s = false := by simpa using hs
    refine pv_aload_0 (pc := 0) dX11_bag_0 ?_
    refine pv_iload_1 (pc := 1) dX11_bag_1 ?_
    refine pv_callV1 (pc := 2) dX11_bag_2 mgX11_noRow lv_X11_78_11 (by decide) (sx_16 hT) (by omega) (c_X11_noRow hW hX (by omega)) rfl rfl (by decide) ?_
    refine pv_istore_5 (pc := 5) dX11_bag_5 (by decide) rfl ?_
    refine pv_aload_0 (pc := 7) dX11_bag_7 ?_
    refine pv_iload_1 (pc := 8) dX11_bag_8 ?_
    refine pv_callV1 (pc := 9) dX11_bag_9 mgX11_shelfAt lv_X11_66_11 (by decide) (sx_16 hT) (by omega) (c_X11_shelfAt0 hT hR hs0) rfl rfl (by decide) ?_
    refine pv_astoreN_6 (pc := 12) dX11_bag_12 (by decide) rfl ?_
    refine pv_iload_5 (pc := 14) dX11_bag_14 ?_
    refine pv_if_ne (pc := 16) (tgt := 24) dX11_bag_16 (by decide) (fun h16 => ?_) (fun h16 => absurd h16 (by rw [w_wants_n0 hs0]; decide))
    refine pv_aload_0 (pc := 24) dX11_bag_24 ?_
    refine pv_iload_5 (pc := 25) dX11_bag_25 ?_
    refine pv_callV1 (pc := 27) dX11_bag_27 mgX11_refuseTen lv_X11_230_11 (by decide) (sx_16 hT) (by omega) (c_X11_refuseTen (k := (-(w_wants J s)).toNatClampNeg) hT hR rfl (w_wants_in J s) (by omega)) rfl rfl (by decide) ?_
    refine pv_iret (pc := 30) dX11_bag_30 rfl rfl ?_
    have e : w_wants J s = -1 := w_wants_n0 hs0
    refine qX.ref hX (by rw [e]; decide) ?_
    unfold S_bag; rw [if_neg (by rw [e]; decide), x_neg10]

