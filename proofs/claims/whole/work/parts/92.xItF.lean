/-! the class: a barn's items: figure -/
theorem tB.add {J : pv_I} {t0 : pv_T} {I0 : pv_I} {L0 : pv_L} {Rf0 : pv_R} {k e : Nat} {c : Nat → Int32} {J1 : pv_I} {K1 : pv_L} {t : pv_T} {I : pv_I} {L : pv_L} {Rf : pv_R} {r : Nat} {f a z : Int32} (h : tB J t0 I0 L0 Rf0 k e c J1 K1 t I L Rf r) (hk8 : k < 8) (hT0 : sh_ok t0) (h8 : (J1 0 0).toInt < 8) (hf : 0 ≤ f.toInt ∧ f.toInt ≤ 6) (ha : 0 ≤ a.toInt ∧ a.toInt ≤ 9) (hz : 1 ≤ z.toInt ∧ z.toInt ≤ 9) : tB J t0 I0 L0 Rf0 k e c (S_adds J1 f a z) K1 (pv_tn t (.inr (fcls f))) (pv_u (x_nI I t.2 f (J1 0 0) a z) 25 3 (J1 0 0 + 1)) (x_nL L t.2) (pv_u (x_nR Rf t.2) 18 (J1 0 0).toNatClampNeg (some t.2)) r := by
  obtain ⟨a1, a2, a3, a4, a5, a6, a7, a8⟩ := h
  have hT := a1.sh hT0
  have h90 := hT.1
  have h900 := hT0.1
  have hle := a1.1
  have hn : 0 ≤ (J1 0 0).toInt ∧ (J1 0 0).toInt < 8 := ⟨a7.1.1, h8⟩
  have e1 : (J1 0 0 + 1).toInt = (J1 0 0).toInt + 1 := x_n1 (by omega)
  refine ⟨a1.tr (pv_al.add hT hn.1) a8, fun b j q1 q2 q3 q4 => ?_, fun b j q1 q2 => ?_, ⟨?_, a4.2.1, fun j hj => ?_, ?_, a4.2.2.2.2⟩, ?_, ?_, a7.adds h8 hf ha hz, ?_⟩
  · rw [pv_u_o _ (by omega), x_nI_o (by omega)]; exact a2 b j q1 q2 q3 q4
  · rw [x_nL_o (by omega)]; exact a3 b j q1 q2
  · rw [pv_u_o _ (by omega), x_nI_o (by omega)]; exact a4.1
  · rw [x_nL_o (by omega)]; exact a4.2.2.1 j hj
  · rw [pv_u_o _ (by omega), x_nI_o (by omega)]; exact a4.2.2.2.1
  · obtain ⟨y1, y2, y3, y4, y5, y6, y7⟩ := a5
    have jo : ∀ x j, x ≠ 1 → x ≠ 2 → x ≠ 3 → ¬ (x = 0 ∧ j = 0) → S_adds J1 f a z x j = J1 x j := fun x j q1 q2 q3 q4 => S_adds_o q4 (by omega)
    refine ⟨by rw [x_nL_o (by omega)]; exact y1, by rw [x_nL_o (by omega)]; exact y2, by rw [pv_u_eq, if_pos rfl, S_adds_n.1], ?_, ?_, ?_, fun j hj => ?_⟩
    · rw [pv_u_o _ (by decide), x_nI_o (by omega), jo 0 1 (by decide) (by decide) (by decide) (by omega)]; exact y4
    · rw [pv_u_o _ (by decide), x_nI_o (by omega), jo 0 2 (by decide) (by decide) (by decide) (by omega)]; exact y5
    · rw [pv_u_o _ (by decide), x_nI_o (by omega), jo 0 3 (by decide) (by decide) (by decide) (by omega)]; exact y6
    · rw [pv_u_o _ (by omega), x_nI_o (by omega), jo 4 j (by decide) (by decide) (by decide) (by omega)]; exact y7 j hj
  · exact a6.add hT hn (fun b j q => pv_u_o _ (by omega))
  · rw [S_adds_n.1, e1]; omega
theorem c_isKind_b {G : pv_G} {d : Nat} {k : Int32} {b : Bool} {t : pv_T} {I : pv_I} {L : pv_L} {Rf : pv_R} (hn : (decide (0 ≤ k) && decide (k < 7)) = b) : pv_Mt G mX11_isKind d 0 0 [.int k] t I L Rf (pv_is (some (.int (pv_b b))) t I L Rf) := hn ▸ c_X11_isKind
theorem c_isA_b {G : pv_G} {d : Nat} {k : Int32} {b : Bool} {t : pv_T} {I : pv_I} {L : pv_L} {Rf : pv_R} (hn : (decide (0 ≤ k) && decide (k ≤ 9)) = b) : pv_Mt G mX11_isA d 0 0 [.int k] t I L Rf (pv_is (some (.int (pv_b b))) t I L Rf) := hn ▸ c_X11_isA
theorem c_isCost_b {G : pv_G} {d : Nat} {k : Int32} {b : Bool} {t : pv_T} {I : pv_I} {L : pv_L} {Rf : pv_R} (hn : (decide (1 ≤ k) && decide (k ≤ 9)) = b) : pv_Mt G mX11_isCost d 0 0 [.int k] t I L Rf (pv_is (some (.int (pv_b b))) t I L Rf) := hn ▸ c_X11_isCost
def x_fg2 (c : Nat → Int32) (e r : Nat) (k a : Int32) (J1 : pv_I) (K1 : pv_L) : BR := match x_rn c e r with
  | none => .error (x_rf c e r)
  | some z => if (decide (1 ≤ z.2) && decide (z.2 ≤ 9)) = true then .ok (z.1, S_adds J1 k a z.2, K1) else .error (r + 1)
def x_fg1 (c : Nat → Int32) (e r : Nat) (k : Int32) (J1 : pv_I) (K1 : pv_L) : BR := match x_rn c e r with
  | none => .error (x_rf c e r)
  | some a => if (decide (0 ≤ a.2) && decide (a.2 ≤ 9)) = true then x_fg2 c e a.1 k a.2 J1 K1 else .error (r + 1)
def x_fig (c : Nat → Int32) (e r : Nat) (J1 : pv_I) (K1 : pv_L) : BR := match x_rn c e r with
  | none => .error (x_rf c e r)
  | some k => if (decide (0 ≤ k.2) && decide (k.2 < 7)) = true then x_fg1 c e k.1 k.2 J1 K1 else .error (r + 1)
theorem x_rn_n {c : Nat → Int32} {e r : Nat} {B : Nat × Int32 → BR} {E : BR} (h : x_rn c e r = none) : (match x_rn c e r with | none => E | some p => B p) = E := by rw [h]
theorem x_rn_s {c : Nat → Int32} {e r : Nat} {p : Nat × Int32} {B : Nat × Int32 → BR} {E : BR} (h : x_rn c e r = some p) : (match x_rn c e r with | none => E | some p => B p) = B p := by rw [h]

set_option maxRecDepth 100000 in
set_option maxHeartbeats 4000000 in
theorem c_X11_readFigure {G : pv_G} {d : Nat} {J : pv_I} {t0 : pv_T} {I0 : pv_I} {L0 : pv_L} {Rf0 : pv_R} {k e : Nat} {c : Nat → Int32} {J1 : pv_I} {K1 : pv_L} {r : Nat} {t : pv_T} {I : pv_I} {L : pv_L} {Rf : pv_R} (hT0 : sh_ok t0) (hR0 : rf_ok Rf0) (hk8 : k < 8) (hB : tB J t0 I0 L0 Rf0 k e c J1 K1 t I L Rf r) (h8 : (J1 0 0).toInt < 8) (hd : 12 ≤ d) : pv_Mt G mX11_readFigure d 1 5 [.ref 16, .ref (45 + 2 * k)] t I L Rf (q_it J t0 I0 L0 Rf0 k e c (x_fig c e r J1 K1)) := by
  refine pv_mt mgX11_readFigure.2.2.2.2.2 [.ref 16, .ref (45 + 2 * k), .retAddr 0, .retAddr 0, .retAddr 0] rfl (Nat.le_of_ble_eq_true rfl) ?_
  have hT := hB.1.sh hT0
  have hR := hB.1.re hT0 hR0
  refine pv_aload_1 (pc := 0) dX11_readFigure_0 ?_
  refine pv_callVq (pc := 1) dX11_readFigure_1 mgX8_readNumber lv_X11_464_8 (by omega) (sx_sh hT hk8) (by omega) (c_X8_readNumber hT hR hk8 hB.2.2.2.1 (by omega)) rfl rfl (by decide) (fun v t I L Rf hq => ?_)
  obtain ⟨rfl, rfl, rfl, hs1, hc1⟩ := hq
  rcases hc1 with ⟨p, e1, rfl, p0, p1, h4, h5, hpe, hplt⟩ | ⟨e1, rfl, h6⟩
  · have hB1 := hB.rd hk8 hs1 h4 hpe
    cases hn : (decide (0 ≤ p.2) && decide (p.2 < 7)) with
    | true =>
      refine pv_istore_2 (pc := 4) dX11_readFigure_4 (by decide) rfl ?_
      refine pv_iload_2 (pc := 5) dX11_readFigure_5 ?_
      refine pv_iconst (pc := 6) (v := (-1)) dX11_readFigure_6 (by decide) ?_
      refine pv_icmp_eq (pc := 7) (tgt := 25) dX11_readFigure_7 (by decide) (fun h7 => absurd h7 (i_nn p0)) (fun h7 => ?_)
      refine pv_aload_1 (pc := 10) dX11_readFigure_10 ?_
      refine pv_aload_1 (pc := 11) dX11_readFigure_11 ?_
      refine pv_getI (pc := 12) dX11_readFigure_12 fg_X11_467_8 rfl (by omega) (sx_sh hT hk8) ?_
      refine pv_iload_2 (pc := 15) dX11_readFigure_15 ?_
      refine pv_callS1 (pc := 16) dX11_readFigure_16 mgX11_isKind ls_X11_129 (by omega) (c_isKind_b (b := true) hn) rfl rfl (Nat.le_of_ble_eq_true rfl) ?_
      refine pv_callV1 (pc := 19) dX11_readFigure_19 mgX8_fits lv_X11_447_8 (by omega) (sx_sh hT hk8) (by omega) (c_X8_fits (b := true) hT hR hk8) rfl rfl (by decide) ?_
      refine pv_if_ne (pc := 22) (tgt := 27) dX11_readFigure_22 (by decide) (fun _ => ?_) (fun q => absurd q (by decide))
      have hk1 := hn
      clear hn
      refine pv_aload_1 (pc := 27) dX11_readFigure_27 ?_
      refine pv_callVq (pc := 28) dX11_readFigure_28 mgX8_readNumber lv_X11_464_8 (by omega) (sx_sh hT hk8) (by omega) (c_X8_readNumber hT hR hk8 hB1.2.2.2.1 (by omega)) rfl rfl (by decide) (fun v t I L Rf hq => ?_)
      obtain ⟨rfl, rfl, rfl, hs2, hc2⟩ := hq
      rcases hc2 with ⟨q, e2, rfl, q0, q1, g4, g5, hqe, hqlt⟩ | ⟨e2, rfl, g6⟩
      · have hB2 := hB1.rd hk8 hs2 g4 hqe
        cases hn : (decide (0 ≤ q.2) && decide (q.2 ≤ 9)) with
        | true =>
          refine pv_istore_3 (pc := 31) dX11_readFigure_31 (by decide) rfl ?_
          refine pv_iload_3 (pc := 32) dX11_readFigure_32 ?_
          refine pv_iconst (pc := 33) (v := (-1)) dX11_readFigure_33 (by decide) ?_
          refine pv_icmp_eq (pc := 34) (tgt := 52) dX11_readFigure_34 (by decide) (fun h34 => absurd h34 (i_nn q0)) (fun h34 => ?_)
          refine pv_aload_1 (pc := 37) dX11_readFigure_37 ?_
          refine pv_aload_1 (pc := 38) dX11_readFigure_38 ?_
          refine pv_getI (pc := 39) dX11_readFigure_39 fg_X11_467_8 rfl (by omega) (sx_sh hT hk8) ?_
          refine pv_iload_3 (pc := 42) dX11_readFigure_42 ?_
          refine pv_callS1 (pc := 43) dX11_readFigure_43 mgX11_isA ls_X11_145 (by omega) (c_isA_b (b := true) hn) rfl rfl (Nat.le_of_ble_eq_true rfl) ?_
          refine pv_callV1 (pc := 46) dX11_readFigure_46 mgX8_fits lv_X11_447_8 (by omega) (sx_sh hT hk8) (by omega) (c_X8_fits (b := true) hT hR hk8) rfl rfl (by decide) ?_
          refine pv_if_ne (pc := 49) (tgt := 54) dX11_readFigure_49 (by decide) (fun _ => ?_) (fun q => absurd q (by decide))
          have hk2 := hn
          clear hn
          refine pv_aload_1 (pc := 54) dX11_readFigure_54 ?_
          refine pv_callVq (pc := 55) dX11_readFigure_55 mgX8_readNumber lv_X11_464_8 (by omega) (sx_sh hT hk8) (by omega) (c_X8_readNumber hT hR hk8 hB2.2.2.2.1 (by omega)) rfl rfl (by decide) (fun v t I L Rf hq => ?_)
          obtain ⟨rfl, rfl, rfl, hs3, hc3⟩ := hq
          rcases hc3 with ⟨w, e3, rfl, w0, w1, m4, m5, hwe, hwlt⟩ | ⟨e3, rfl, m6⟩
          · have hB3 := hB2.rd hk8 hs3 m4 hwe
            cases hn : (decide (1 ≤ w.2) && decide (w.2 ≤ 9)) with
            | true =>
              refine pv_istore_4 (pc := 58) dX11_readFigure_58 (by decide) rfl ?_
              refine pv_iload_4 (pc := 60) dX11_readFigure_60 ?_
              refine pv_iconst (pc := 62) (v := (-1)) dX11_readFigure_62 (by decide) ?_
              refine pv_icmp_eq (pc := 63) (tgt := 82) dX11_readFigure_63 (by decide) (fun h63 => absurd h63 (i_nn w0)) (fun h63 => ?_)
              refine pv_aload_1 (pc := 66) dX11_readFigure_66 ?_
              refine pv_aload_1 (pc := 67) dX11_readFigure_67 ?_
              refine pv_getI (pc := 68) dX11_readFigure_68 fg_X11_467_8 rfl (by omega) (sx_sh hT hk8) ?_
              refine pv_iload_4 (pc := 71) dX11_readFigure_71 ?_
              refine pv_callS1 (pc := 73) dX11_readFigure_73 mgX11_isCost ls_X11_148 (by omega) (c_isCost_b (b := true) hn) rfl rfl (Nat.le_of_ble_eq_true rfl) ?_
              refine pv_callV1 (pc := 76) dX11_readFigure_76 mgX8_fits lv_X11_447_8 (by omega) (sx_sh hT hk8) (by omega) (c_X8_fits (b := true) hT hR hk8) rfl rfl (by decide) ?_
              refine pv_if_ne (pc := 79) (tgt := 84) dX11_readFigure_79 (by decide) (fun _ => ?_) (fun q => absurd q (by decide))
              have hk3 := hn
              have hkk : 0 ≤ p.2.toInt ∧ p.2.toInt ≤ 6 := by
                have z := hk1
                simp only [Bool.and_eq_true, decide_eq_true_eq, i_lt, show (7 : Int32).toInt = 7 by decide] at z
                omega
              have hak : 0 ≤ q.2.toInt ∧ q.2.toInt ≤ 9 := by
                have z := hk2
                simp only [Bool.and_eq_true, decide_eq_true_eq, i_le, show (9 : Int32).toInt = 9 by decide] at z
                omega
              have hzk : 1 ≤ w.2.toInt ∧ w.2.toInt ≤ 9 := by
                have z := hk3
                simp only [Bool.and_eq_true, decide_eq_true_eq, i_le, show (9 : Int32).toInt = 9 by decide, show (1 : Int32).toInt = 1 by decide] at z
                omega
              have hx3 := hB3.2.2.2.2.1.2.2.1
              have hn8 : 0 ≤ (I 25 3).toInt ∧ (I 25 3).toInt < 8 := by rw [hx3]; exact ⟨hB3.2.2.2.2.2.2.1.1.1, h8⟩
              refine pv_aload_0 (pc := 84) dX11_readFigure_84 ?_
              refine pv_aload_0 (pc := 85) dX11_readFigure_85 ?_
              refine pv_getR (pc := 86) dX11_readFigure_86 fg_X11_38_11 rfl (by decide) (sx_16 hT) (rx_16_6 hR) ?_
              refine pv_iload_2 (pc := 89) dX11_readFigure_89 ?_
              refine pv_iload_3 (pc := 90) dX11_readFigure_90 ?_
              refine pv_iload_4 (pc := 91) dX11_readFigure_91 ?_
              refine pv_callV (bc := 0) (bs := 0) (d1 := d - 1) (pc := 93) dX11_readFigure_93 mgX11_addFigure lv_X11_154_11 (by decide) (sx_16 hT) (by omega) (c_X11_addFigure hT hR (hl_25 hT hR) hn8 hkk (by omega)) rfl rfl (Nat.le_of_ble_eq_true rfl) (fun v t1 I1 L1 R1 hq => ?_)
              obtain ⟨rfl, rfl, rfl, rfl, rfl⟩ := hq
              rw [hx3]
              refine pv_iconst (pc := 96) (v := 1) dX11_readFigure_96 (by decide) ?_
              refine pv_iret (pc := 97) dX11_readFigure_97 rfl rfl ?_
              refine Or.inl ⟨w.1, _, _, ?_, rfl, hB3.add hk8 hT0 h8 hkk hak hzk⟩
              unfold x_fig; rw [e1]
              show (if _ = true then _ else _) = _
              rw [if_pos hk1]
              unfold x_fg1; rw [e2]
              show (if _ = true then _ else _) = _
              rw [if_pos hk2]
              unfold x_fg2; rw [e3]
              show (if _ = true then _ else _) = _
              rw [if_pos hk3]
            | false =>
              refine pv_istore_4 (pc := 58) dX11_readFigure_58 (by decide) rfl ?_
              refine pv_iload_4 (pc := 60) dX11_readFigure_60 ?_
              refine pv_iconst (pc := 62) (v := (-1)) dX11_readFigure_62 (by decide) ?_
              refine pv_icmp_eq (pc := 63) (tgt := 82) dX11_readFigure_63 (by decide) (fun h63 => absurd h63 (i_nn w0)) (fun h63 => ?_)
              refine pv_aload_1 (pc := 66) dX11_readFigure_66 ?_
              refine pv_aload_1 (pc := 67) dX11_readFigure_67 ?_
              refine pv_getI (pc := 68) dX11_readFigure_68 fg_X11_467_8 rfl (by omega) (sx_sh hT hk8) ?_
              refine pv_iload_4 (pc := 71) dX11_readFigure_71 ?_
              refine pv_callS1 (pc := 73) dX11_readFigure_73 mgX11_isCost ls_X11_148 (by omega) (c_isCost_b (b := false) hn) rfl rfl (Nat.le_of_ble_eq_true rfl) ?_
              refine pv_callV1 (pc := 76) dX11_readFigure_76 mgX8_fits lv_X11_447_8 (by omega) (sx_sh hT hk8) (by omega) (c_X8_fits (b := false) hT hR hk8) rfl rfl (by decide) ?_
              refine pv_if_ne (pc := 79) (tgt := 84) dX11_readFigure_79 (by decide) (fun q => absurd q (by decide)) (fun _ => ?_)
              refine pv_iconst (pc := 82) (v := 0) dX11_readFigure_82 (by decide) ?_
              refine pv_iret (pc := 83) dX11_readFigure_83 rfl rfl ?_
              refine Or.inr ⟨q.1 + 1, ?_, rfl, hB3.er (sF.rf.u 6 _ (by omega)) (by rw [if_neg (by decide), pv_u_eq, if_pos rfl]; exact m5)⟩
              unfold x_fig; rw [e1]
              show (if _ = true then _ else _) = _
              rw [if_pos hk1]
              unfold x_fg1; rw [e2]
              show (if _ = true then _ else _) = _
              rw [if_pos hk2]
              unfold x_fg2; rw [e3]
              show (if _ = true then _ else _) = _
              rw [if_neg (by rw [hn]; decide)]
          · skip
            refine pv_istore_4 (pc := 58) dX11_readFigure_58 (by decide) rfl ?_
            refine pv_iload_4 (pc := 60) dX11_readFigure_60 ?_
            refine pv_iconst (pc := 62) (v := (-1)) dX11_readFigure_62 (by decide) ?_
            refine pv_icmp_eq (pc := 63) (tgt := 82) dX11_readFigure_63 (by decide) (fun _ => ?_) (fun q => absurd q (by decide))
            refine pv_iconst (pc := 82) (v := 0) dX11_readFigure_82 (by decide) ?_
            refine pv_iret (pc := 83) dX11_readFigure_83 rfl rfl ?_
            refine Or.inr ⟨_, ?_, rfl, hB2.er hs3 m6⟩
            unfold x_fig; rw [e1]
            show (if _ = true then _ else _) = _
            rw [if_pos hk1]
            unfold x_fg1; rw [e2]
            show (if _ = true then _ else _) = _
            rw [if_pos hk2]
            unfold x_fg2; rw [e3]
        | false =>
          refine pv_istore_3 (pc := 31) dX11_readFigure_31 (by decide) rfl ?_
          refine pv_iload_3 (pc := 32) dX11_readFigure_32 ?_
          refine pv_iconst (pc := 33) (v := (-1)) dX11_readFigure_33 (by decide) ?_
          refine pv_icmp_eq (pc := 34) (tgt := 52) dX11_readFigure_34 (by decide) (fun h34 => absurd h34 (i_nn q0)) (fun h34 => ?_)
          refine pv_aload_1 (pc := 37) dX11_readFigure_37 ?_
          refine pv_aload_1 (pc := 38) dX11_readFigure_38 ?_
          refine pv_getI (pc := 39) dX11_readFigure_39 fg_X11_467_8 rfl (by omega) (sx_sh hT hk8) ?_
          refine pv_iload_3 (pc := 42) dX11_readFigure_42 ?_
          refine pv_callS1 (pc := 43) dX11_readFigure_43 mgX11_isA ls_X11_145 (by omega) (c_isA_b (b := false) hn) rfl rfl (Nat.le_of_ble_eq_true rfl) ?_
          refine pv_callV1 (pc := 46) dX11_readFigure_46 mgX8_fits lv_X11_447_8 (by omega) (sx_sh hT hk8) (by omega) (c_X8_fits (b := false) hT hR hk8) rfl rfl (by decide) ?_
          refine pv_if_ne (pc := 49) (tgt := 54) dX11_readFigure_49 (by decide) (fun q => absurd q (by decide)) (fun _ => ?_)
          refine pv_iconst (pc := 52) (v := 0) dX11_readFigure_52 (by decide) ?_
          refine pv_iret (pc := 53) dX11_readFigure_53 rfl rfl ?_
          refine Or.inr ⟨p.1 + 1, ?_, rfl, hB2.er (sF.rf.u 6 _ (by omega)) (by rw [if_neg (by decide), pv_u_eq, if_pos rfl]; exact g5)⟩
          unfold x_fig; rw [e1]
          show (if _ = true then _ else _) = _
          rw [if_pos hk1]
          unfold x_fg1; rw [e2]
          show (if _ = true then _ else _) = _
          rw [if_neg (by rw [hn]; decide)]
      · skip
        refine pv_istore_3 (pc := 31) dX11_readFigure_31 (by decide) rfl ?_
        refine pv_iload_3 (pc := 32) dX11_readFigure_32 ?_
        refine pv_iconst (pc := 33) (v := (-1)) dX11_readFigure_33 (by decide) ?_
        refine pv_icmp_eq (pc := 34) (tgt := 52) dX11_readFigure_34 (by decide) (fun _ => ?_) (fun q => absurd q (by decide))
        refine pv_iconst (pc := 52) (v := 0) dX11_readFigure_52 (by decide) ?_
        refine pv_iret (pc := 53) dX11_readFigure_53 rfl rfl ?_
        refine Or.inr ⟨_, ?_, rfl, hB1.er hs2 g6⟩
        unfold x_fig; rw [e1]
        show (if _ = true then _ else _) = _
        rw [if_pos hk1]
        unfold x_fg1; rw [e2]
    | false =>
      refine pv_istore_2 (pc := 4) dX11_readFigure_4 (by decide) rfl ?_
      refine pv_iload_2 (pc := 5) dX11_readFigure_5 ?_
      refine pv_iconst (pc := 6) (v := (-1)) dX11_readFigure_6 (by decide) ?_
      refine pv_icmp_eq (pc := 7) (tgt := 25) dX11_readFigure_7 (by decide) (fun h7 => absurd h7 (i_nn p0)) (fun h7 => ?_)
      refine pv_aload_1 (pc := 10) dX11_readFigure_10 ?_
      refine pv_aload_1 (pc := 11) dX11_readFigure_11 ?_
      refine pv_getI (pc := 12) dX11_readFigure_12 fg_X11_467_8 rfl (by omega) (sx_sh hT hk8) ?_
      refine pv_iload_2 (pc := 15) dX11_readFigure_15 ?_
      refine pv_callS1 (pc := 16) dX11_readFigure_16 mgX11_isKind ls_X11_129 (by omega) (c_isKind_b (b := false) hn) rfl rfl (Nat.le_of_ble_eq_true rfl) ?_
      refine pv_callV1 (pc := 19) dX11_readFigure_19 mgX8_fits lv_X11_447_8 (by omega) (sx_sh hT hk8) (by omega) (c_X8_fits (b := false) hT hR hk8) rfl rfl (by decide) ?_
      refine pv_if_ne (pc := 22) (tgt := 27) dX11_readFigure_22 (by decide) (fun q => absurd q (by decide)) (fun _ => ?_)
      refine pv_iconst (pc := 25) (v := 0) dX11_readFigure_25 (by decide) ?_
      refine pv_iret (pc := 26) dX11_readFigure_26 rfl rfl ?_
      refine Or.inr ⟨r + 1, ?_, rfl, hB1.er (sF.rf.u 6 _ (by omega)) (by rw [if_neg (by decide), pv_u_eq, if_pos rfl]; exact h5)⟩
      unfold x_fig; rw [e1]
      show (if _ = true then _ else _) = _
      rw [if_neg (by rw [hn]; decide)]
  · skip
    refine pv_istore_2 (pc := 4) dX11_readFigure_4 (by decide) rfl ?_
    refine pv_iload_2 (pc := 5) dX11_readFigure_5 ?_
    refine pv_iconst (pc := 6) (v := (-1)) dX11_readFigure_6 (by decide) ?_
    refine pv_icmp_eq (pc := 7) (tgt := 25) dX11_readFigure_7 (by decide) (fun _ => ?_) (fun q => absurd q (by decide))
    refine pv_iconst (pc := 25) (v := 0) dX11_readFigure_25 (by decide) ?_
    refine pv_iret (pc := 26) dX11_readFigure_26 rfl rfl ?_
    refine Or.inr ⟨_, ?_, rfl, hB.er hs1 h6⟩
    unfold x_fig; rw [e1]

