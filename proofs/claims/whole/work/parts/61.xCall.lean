/-! the class: call judge told dances -/
theorem y_mv_room {k a : Int32} {p q : Int64} (hN : s_isN p q) (ha : 0 ≤ a.toInt ∧ a.toInt ≤ 9) : y_mv k a p q = s_room (f_P k a p q) (f_Q k a p q) ∧ (y_mv k a p q = true → s_isN (f_P k a p q) (f_Q k a p q)) := by
  have hN0 := hN
  obtain ⟨n1, n2, n3, n4, n5⟩ := hN0
  cases hc : s_isC k with
  | true =>
    obtain ⟨l1, l2, l3, l4⟩ := f_cC hc a p q (fun _ => 0)
    rw [l1, l2, l4]
    have e : y_ok (p + (f_m k a).toInt64 * q) = s_room (p + (f_m k a).toInt64 * q) q := by
      unfold y_ok s_room
      rw [decide_eq_true (p := q ≤ 1000000000000) (by rw [l64_le, show (1000000000000 : Int64).toInt = 1000000000000 by decide]; exact n2), Bool.and_true]
      congr 1
      · rw [← decide_not, decide_eq_decide, l64_lt, l64_le]; omega
      · rw [← decide_not, decide_eq_decide, l64_lt, l64_le]; omega
    refine ⟨e, fun h => ?_⟩
    rw [e] at h
    refine isN_add hN ?_ h
    rw [Int32.toInt_toInt64]
    unfold f_m
    split
    · decide
    · split
      · decide
      · omega
  | false =>
    have r0 : s_room p q = true := by
      simp only [s_room, Bool.and_eq_true, decide_eq_true_eq, l64_le, (show (1000000000000 : Int64).toInt = 1000000000000 from by decide), (show ((-1000000000000) : Int64).toInt = (-1000000000000) from by decide)]
      exact ⟨⟨n4, n3⟩, n2⟩
    have m0 : y_mv k a p q = true := by unfold y_mv; rw [if_neg (by rw [hc]; decide)]
    rw [m0]
    unfold f_P f_Q
    have hcn : ¬ s_isC k = true := by rw [hc]; decide
    rw [if_neg hcn, if_neg hcn]
    by_cases g : s_isT k = true ∧ f_n k a % 2 = 1
    · rw [if_pos g, if_pos g]
      exact ⟨(room_turn hN).symm, fun _ => isN_turn hN⟩
    · rw [if_neg g, if_neg g]
      exact ⟨r0.symm, fun _ => hN⟩
theorem i_r1 (a b c d : Int32) : a + b + (c - (d + b)) = a + (c - d) := by grind
theorem i_r2 (a c : Int32) : (a + (c - 0)) - a = c := by grind
theorem i_r3 (a : Int32) (m : Nat) : a + 1 + Int32.ofNat m = a + Int32.ofNat (m + 1) := by rw [Int32.ofNat_add]; grind
theorem i_r4 (a b : Int32) : a + (b - b) = a := by grind
/-- the reference's row in thought and the class's -/
theorem led_y {J : pv_I} {K : pv_L} (hW : WF J K) (s : Nat) : ∀ (m i : Nat) (x : Int32) (p q : Int64) (c : Nat → Int32) (y st sp : Int32), s_isN p q →
    ((w_led J K s m i x p q c y).1 = true → y_led J (K (1 + s)) m i (st, sp, p, q, c) = (i + m, st + Int32.ofNat m, sp + ((w_led J K s m i x p q c y).2.2.2.2.2 - y), (w_led J K s m i x p q c y).2.2.1, (w_led J K s m i x p q c y).2.2.2.1, (w_led J K s m i x p q c y).2.2.2.2.1) ∧ (w_led J K s m i x p q c y).2.1 = -1 ∧ s_isN (w_led J K s m i x p q c y).2.2.1 (w_led J K s m i x p q c y).2.2.2.1) ∧
    ((w_led J K s m i x p q c y).1 = false → (y_led J (K (1 + s)) m i (st, sp, p, q, c)).1 < i + m ∧ (w_led J K s m i x p q c y).2.1 = Int32.ofNat (y_led J (K (1 + s)) m i (st, sp, p, q, c)).1)
  | 0, i, x, p, q, c, y, st, sp, hN => by
    refine ⟨fun _ => ⟨?_, rfl, hN⟩, fun h => absurd (show true = false from h) (by decide)⟩
    show (i, st, sp, p, q, c) = (i + 0, st + Int32.ofNat 0, sp + (y - y), p, q, c)
    rw [i_r4, Nat.add_zero, show Int32.ofNat 0 = 0 from rfl, Int32.add_zero]
  | m + 1, i, x, p, q, c, y, st, sp, hN => by
    rw [w_led, y_led]
    by_cases hF : w_isF J (K (1 + s) i).toInt32
    · obtain ⟨e, e2⟩ := y_mv_room (k := J 1 (K (1 + s) i).toInt32.toNatClampNeg) (a := J 2 (K (1 + s) i).toInt32.toNatClampNeg) hN (hW.2.1 _ (hF.nat hW).2).2.1
      have ec : y_can J (K (1 + s) i).toInt32 (st, sp, p, q, c) = s_room (f_P (J 1 (K (1 + s) i).toInt32.toNatClampNeg) (J 2 (K (1 + s) i).toInt32.toNatClampNeg) p q) (f_Q (J 1 (K (1 + s) i).toInt32.toNatClampNeg) (J 2 (K (1 + s) i).toInt32.toNatClampNeg) p q) := by
        unfold y_can
        rw [decide_eq_true hF.1, decide_eq_true hF.2, e]; rfl
      rw [if_pos (show 0 ≤ (K (1 + s) i).toInt32 ∧ (K (1 + s) i).toInt32 < J 0 0 from hF), ec]
      by_cases hr : s_room (f_P (J 1 (K (1 + s) i).toInt32.toNatClampNeg) (J 2 (K (1 + s) i).toInt32.toNatClampNeg) p q) (f_Q (J 1 (K (1 + s) i).toInt32.toNatClampNeg) (J 2 (K (1 + s) i).toInt32.toNatClampNeg) p q) = true
      · rw [if_pos hr, if_pos hr]
        have ih := led_y hW s m (i + 1) (Int32.ofNat i) _ _ (f_C (J 1 (K (1 + s) i).toInt32.toNatClampNeg) (J 2 (K (1 + s) i).toInt32.toNatClampNeg) c) (y + J 3 (K (1 + s) i).toInt32.toNatClampNeg) (st + 1) (sp + J 3 (K (1 + s) i).toInt32.toNatClampNeg) (e2 (by rw [e]; exact hr))
        refine ⟨fun h => ?_, fun h => ?_⟩
        · obtain ⟨g1, g2, g3⟩ := ih.1 h
          refine ⟨?_, g2, g3⟩
          rw [i_r1, i_r3] at g1
          rw [show i + (m + 1) = i + 1 + m by omega]
          exact g1
        · obtain ⟨g1, g2⟩ := ih.2 h
          exact ⟨by have : (y_led J (K (1 + s)) m (i + 1) (y_fg J (K (1 + s) i).toInt32.toNatClampNeg (st, sp, p, q, c))).1 < i + 1 + m := g1; omega, g2⟩
      · rw [if_neg hr, if_neg hr]
        exact ⟨fun h => absurd (show false = true from h) (by decide), fun _ => ⟨by show i < i + (m + 1); omega, rfl⟩⟩
    · have ec : ¬ y_can J (K (1 + s) i).toInt32 (st, sp, p, q, c) = true := fun z => hF (by
        unfold y_can at z
        simp only [Bool.and_eq_true, decide_eq_true_eq] at z
        exact z.1)
      rw [if_neg (show ¬ (0 ≤ (K (1 + s) i).toInt32 ∧ (K (1 + s) i).toInt32 < J 0 0) from hF), if_neg ec]
      exact ⟨fun h => absurd (show false = true from h) (by decide), fun _ => ⟨by show i < i + (m + 1); omega, rfl⟩⟩
theorem try_y {J : pv_I} {K : pv_L} (hW : WF J K) {s n : Int32} (hb : w_bars J s n = 0) : ((w_D J K s n).1 = true → y_try J K s n = (n.toNatClampNeg, J 0 1 + n, J 0 2 + (w_D J K s n).2.2.2.2.2, (w_D J K s n).2.2.1, (w_D J K s n).2.2.2.1, (w_D J K s n).2.2.2.2.1) ∧ (w_D J K s n).2.1 = -1 ∧ s_isN (w_D J K s n).2.2.1 (w_D J K s n).2.2.2.1) ∧ ((w_D J K s n).1 = false → (y_try J K s n).1 < n.toNatClampNeg ∧ (w_D J K s n).2.1 = Int32.ofNat (y_try J K s n).1) := by
  have hnl := i_lit n
  obtain ⟨hin, hn0, hn160⟩ := w_bars_0 hW hb
  have h := led_y hW s.toNatClampNeg n.toNatClampNeg 0 0 (K 0 0) (K 0 1) (J 4) 0 (J 0 1) (J 0 2) hW.2.2.1
  have hni : Int32.ofNat n.toNatClampNeg = n := by rw [← Int32.toInt_inj, i_of (by omega)]; omega
  rw [hni, show (w_led J K s.toNatClampNeg n.toNatClampNeg 0 0 (K 0 0) (K 0 1) (J 4) 0).2.2.2.2.2 - 0 = (w_D J K s n).2.2.2.2.2 by unfold w_D; grind, Nat.zero_add] at h
  exact h
theorem w_st_4 {J : pv_I} {c : Nat → Int32} {j : Nat} (hj : j < 4) : w_st J c 4 j = c j := by
  unfold w_st
  rw [pv_u_eq, pv_u_eq, pv_u_eq, pv_u_eq]
  have h4 : j = 0 ∨ j = 1 ∨ j = 2 ∨ j = 3 := by omega
  rcases h4 with rfl | rfl | rfl | rfl <;> rfl
theorem w_st_o {J : pv_I} {c : Nat → Int32} {a j : Nat} (h : a ≠ 4) : w_st J c a j = J a j := by
  unfold w_st
  rw [pv_u_o _ (fun q => h q.1), pv_u_o _ (fun q => h q.1), pv_u_o _ (fun q => h q.1), pv_u_o _ (fun q => h q.1)]
/-- the hall danced in truth -/
theorem RX.dn {J : pv_I} {K : pv_L} {t : pv_T} {I I1 : pv_I} {L L1 : pv_L} {Rf : pv_R} (h : RX J K t I L Rf) {c : Nat → Int32} {n y : Int32} {p q : Int64} (f : fH 21 I L I1 L1) (g : XHw 21 (J 0 0) (J 0 1 + n) (J 0 2 + y) (J 0 3) p q c I1 L1) : RX (w_dn J c n y) (w_pq K p q) t I1 L1 Rf := by
  refine h.hall f.1 f.2 (fun a j h1 h2 => ?_) (fun a j h1 => ?_) ?_
  · unfold w_dn; rw [pv_u_o _ (by omega), pv_u_o _ (by omega), w_st_o h1]
  · unfold w_pq; rw [pv_u_o _ (by omega), pv_u_o _ (by omega)]
  · obtain ⟨g1, g2, g3, g4, g5, g6, g7⟩ := g
    refine ⟨g1, g2, ?_, g4, g5, ?_, fun j hj => ?_⟩
    · show _ = w_dn J c n y 0 0
      unfold w_dn; rw [pv_u_o _ (by omega), pv_u_o _ (by omega), w_st_o (by decide)]; exact g3
    · show _ = w_dn J c n y 0 3
      unfold w_dn; rw [pv_u_o _ (by omega), pv_u_o _ (by omega), w_st_o (by decide)]; exact g6
    · show _ = w_dn J c n y 4 j
      unfold w_dn; rw [pv_u_o _ (by omega), pv_u_o _ (by omega), w_st_4 hj]; exact g7 j hj
theorem fH.kM {h : Nat} {I I1 : pv_I} {L L1 : pv_L} (f : fH h I L I1 L1) (hh : h + 1 < 61) : kM I L I1 L1 := kM.of (fun a j h1 h2 => f.1 a j (by omega) (by omega)) (fun a j h1 h2 => f.2 a j (by omega))

set_option maxRecDepth 100000 in
set_option maxHeartbeats 4000000 in
theorem c_X11_call {G : pv_G} {d : Nat} {J : pv_I} {K : pv_L} {f : Int32} {t : pv_T} {I : pv_I} {L : pv_L} {Rf : pv_R} (hW : WF J K) (hX : RX J K t I L Rf)  (hd : 60 ≤ d) : pv_Mt G mX11_call d 0 0 [.ref 16, .int f] t I L Rf (qX (S_call J K f) I L) := by
  refine pv_mt mgX11_call.2.2.2.2.2 [.ref 16, .int f, .retAddr 0] rfl (Nat.le_of_ble_eq_true rfl) ?_
  have hT := hX.1
  have hR := hX.2.1
  obtain ⟨-, -, ⟨xp, xq, xn, xst, xsp, xsd, xc⟩, xf, xs, xb, xi⟩ := id hX
  by_cases hF : w_isF J f
  · skip
    obtain ⟨x, fx1, fx2, fx3, fx4, fx5, fx6, fx7, fx8, hfb⟩ := xf _ (hF.nat hW).2
    have hk1 := (hW.2.1 _ (hF.nat hW).2).1
    have hk2 := (hW.2.1 _ (hF.nat hW).2).2.1
    have hF8 := (hF.nat hW).1
    have hFc : f < I 21 3 := by rw [xn]; exact hF.2
    refine pv_aload_0 (pc := 0) dX11_call_0 ?_
    refine pv_aload_0 (pc := 1) dX11_call_1 ?_
    refine pv_getR (pc := 2) dX11_call_2 fg_X11_31_11 rfl (by decide) (sx_16 hT) (rx_16_4 hR) ?_
    refine pv_iload_1 (pc := 5) dX11_call_5 ?_
    refine pv_callV1 (pc := 6) dX11_call_6 mgX11_figureAt lv_X11_114_11 (by decide) (sx_16 hT) (by omega) (c_X11_figureAt1 hT hR (by decide) (sx_21 hT) hF8 hFc fx1) rfl rfl (by decide) ?_
    refine pv_astore_2 (pc := 9) dX11_call_9 (by decide) rfl ?_
    refine pv_aload_2 (pc := 10) dX11_call_10 ?_
    refine pv_ifnonnull (pc := 11) (tgt := 20) dX11_call_11 (by decide) ?_
    refine pv_aload_0 (pc := 20) dX11_call_20 ?_
    refine pv_getR (pc := 21) dX11_call_21 fg_X11_31_11 rfl (by decide) (sx_16 hT) (rx_16_4 hR) ?_
    refine pv_aload_2 (pc := 24) dX11_call_24 ?_
    refine pv_callVq (pc := 25) dX11_call_25 mgX4_dance lv_X11_196_4 (by decide) (sx_21 hT) (by omega) (c_X4_dance (k := J 1 f.toNatClampNeg) (a := J 2 f.toNatClampNeg) (cs := J 3 f.toNatClampNeg) (hl_21 hT hR) hX.2.2.1 hk1 hk2 fx2 fx4 fx7 fx8 (by omega)) rfl rfl (by decide) (fun v t I L Rf hq => ?_)
    obtain ⟨rfl, rfl, hf2, ho⟩ := hq
    have emv := y_mv_room (k := J 1 f.toNatClampNeg) (a := J 2 f.toNatClampNeg) hW.2.2.1 hk2
    rcases ho with ⟨e1, rfl, e2⟩ | ⟨e1, rfl, rfl, rfl⟩
    · skip
      refine pv_if_eq (pc := 28) (tgt := 41) dX11_call_28 (by decide) (fun q => absurd q (by decide)) (fun _ => ?_)
      refine pv_aload_0 (pc := 31) dX11_call_31 ?_
      refine pv_getR (pc := 32) dX11_call_32 fg_X11_31_11 rfl (by decide) (sx_16 hT) (rx_16_4 hR) ?_
      refine pv_getI (pc := 35) dX11_call_35 fg_X11_200_4 rfl (by decide) (sx_21 hT) ?_
      refine pv_goto (pc := 38) (tgt := 47) dX11_call_38 (by decide) ?_
      refine pv_iret (pc := 47) dX11_call_47 rfl rfl ?_
      have ec : w_cal J K f.toNatClampNeg = (true, w_dn J (f_C (J 1 f.toNatClampNeg) (J 2 f.toNatClampNeg) (J 4)) 1 (J 3 f.toNatClampNeg), w_pq K (f_P (J 1 f.toNatClampNeg) (J 2 f.toNatClampNeg) (K 0 0) (K 0 1)) (f_Q (J 1 f.toNatClampNeg) (J 2 f.toNatClampNeg) (K 0 0) (K 0 1))) := by unfold w_cal; rw [if_pos (by rw [← emv.1]; exact e1)]
      have e : S_call J K f = (.int (J 0 1 + 1), w_dn J (f_C (J 1 f.toNatClampNeg) (J 2 f.toNatClampNeg) (J 4)) 1 (J 3 f.toNatClampNeg), w_pq K (f_P (J 1 f.toNatClampNeg) (J 2 f.toNatClampNeg) (K 0 0) (K 0 1)) (f_Q (J 1 f.toNatClampNeg) (J 2 f.toNatClampNeg) (K 0 0) (K 0 1))) := by
        unfold S_call; rw [if_pos (show 0 ≤ f ∧ f < J 0 0 from hF), ec, if_pos rfl]
      rw [e]
      exact ⟨congrArg (fun z => some (Value.int z)) e2.2.2.2.1, hX.dn hf2 e2, hf2.kM (by decide)⟩
    · skip
      refine pv_if_eq (pc := 28) (tgt := 41) dX11_call_28 (by decide) (fun _ => ?_) (fun q => absurd q (by decide))
      refine pv_aload_0 (pc := 41) dX11_call_41 ?_
      refine pv_bipush (pc := 42) (v := 7) dX11_call_42 (by decide) ?_
      refine pv_callV1 (pc := 44) dX11_call_44 mgX11_refuse lv_X11_70_11 (by decide) (sx_16 hT) (by omega) (c_X11_refuse (k := 7) hT hR (by decide) (by unfold vp_in; decide)) rfl rfl (by decide) ?_
      refine pv_iret (pc := 47) dX11_call_47 rfl rfl ?_
      have ec : w_cal J K f.toNatClampNeg = (false, J, K) := by unfold w_cal; rw [if_neg (by rw [← emv.1, e1]; decide)]
      refine qX.ref hX k_l7 ?_
      unfold S_call; rw [if_pos (show 0 ≤ f ∧ f < J 0 0 from hF), ec, if_neg (fun z => absurd (show false = true from z) (by decide))]
  · have hFn : ¬ (0 ≤ f ∧ f < I 21 3 ∧ f < 8) := fun q => hF ⟨q.1, by rw [← xn]; exact q.2.1⟩
    refine pv_aload_0 (pc := 0) dX11_call_0 ?_
    refine pv_aload_0 (pc := 1) dX11_call_1 ?_
    refine pv_getR (pc := 2) dX11_call_2 fg_X11_31_11 rfl (by decide) (sx_16 hT) (rx_16_4 hR) ?_
    refine pv_iload_1 (pc := 5) dX11_call_5 ?_
    refine pv_callV1 (pc := 6) dX11_call_6 mgX11_figureAt lv_X11_114_11 (by decide) (sx_16 hT) (by omega) (c_X11_figureAt0 hT hR (by decide) (sx_21 hT) hFn) rfl rfl (by decide) ?_
    refine pv_astoreN_2 (pc := 9) dX11_call_9 (by decide) rfl ?_
    refine pv_aloadN_2 (pc := 10) dX11_call_10 ?_
    refine pv_ifnonnullN (pc := 11) dX11_call_11 ?_
    refine pv_aload_0 (pc := 14) dX11_call_14 ?_
    refine pv_iconst (pc := 15) (v := 1) dX11_call_15 (by decide) ?_
    refine pv_callV1 (pc := 16) dX11_call_16 mgX11_refuse lv_X11_70_11 (by decide) (sx_16 hT) (by omega) (c_X11_refuse (k := 1) hT hR (by decide) (by unfold vp_in; decide)) rfl rfl (by decide) ?_
    refine pv_iret (pc := 19) dX11_call_19 rfl rfl ?_
    refine qX.ref hX (by decide : 1 < 8) ?_; unfold S_call; rw [if_neg (show ¬ (0 ≤ f ∧ f < J 0 0) from hF)]

theorem w_bars_z {J : pv_I} {s n : Int32} (h : -(w_bars J s n) = 0) : w_bars J s n = 0 := by
  rcases w_bars_c J s n with g | g | g | g | g | g
  · exact g
  all_goals (rw [g] at h; exact absurd h (by decide))
theorem w_bars_nz {J : pv_I} {s n : Int32} (h : ¬ -(w_bars J s n) = 0) : ¬ w_bars J s n = 0 := fun q => h (by rw [q]; rfl)
theorem x_iof {n : Int32} (h : 0 ≤ n.toInt) : Int32.ofNat n.toNatClampNeg = n := by
  have := i_lit n
  rw [← Int32.toInt_inj, i_of (by have := Int32.toInt_lt n; omega)]; omega
set_option maxRecDepth 100000 in
set_option maxHeartbeats 4000000 in
theorem c_X11_judge {G : pv_G} {d : Nat} {J : pv_I} {K : pv_L} {s n : Int32} {t : pv_T} {I : pv_I} {L : pv_L} {Rf : pv_R} (hW : WF J K) (hX : RX J K t I L Rf)  (hd : 60 ≤ d) : pv_Mt G mX11_judge d 0 0 [.ref 16, .int s, .int n] t I L Rf (qX (S_judge J K s n) I L) := by
  refine pv_mt mgX11_judge.2.2.2.2.2 [.ref 16, .int s, .int n, .retAddr 0, .retAddr 0] rfl (Nat.le_of_ble_eq_true rfl) ?_
  have hT := hX.1
  have hR := hX.2.1
  obtain ⟨-, -, ⟨xp, xq, xn, xst, xsp, xsd, xc⟩, xf, xs, xb, xi⟩ := id hX
  refine pv_aload_0 (pc := 0) dX11_judge_0 ?_
  refine pv_iload_1 (pc := 1) dX11_judge_1 ?_
  refine pv_iload_2 (pc := 2) dX11_judge_2 ?_
  refine pv_callV1 (pc := 3) dX11_judge_3 mgX11_noPart lv_X11_203_11 (by decide) (sx_16 hT) (by omega) (c_X11_noPart hW hX (by omega)) rfl rfl (by decide) ?_
  refine pv_istore_3 (pc := 6) dX11_judge_6 (by decide) rfl ?_
  refine pv_iload_3 (pc := 7) dX11_judge_7 ?_
  refine pv_if_eq (pc := 8) (tgt := 17) dX11_judge_8 (by decide) (fun h8 => ?_) (fun h8 => ?_)
  · have eb : w_bars J s n = 0 := w_bars_z (by first | exact h8 | exact Classical.not_not.mp h8)
    have hb := eb
    obtain ⟨hin, hn0, hn160⟩ := w_bars_0 hW eb
    have hnl := i_lit n
    have hty := try_y (K := K) hW eb
    have hyl := (y_led_le J (K (1 + s.toNatClampNeg)) n.toNatClampNeg 0 (y_0 J K)).2
    refine pv_aload_0 (pc := 17) dX11_judge_17 ?_
    refine pv_aload_0 (pc := 18) dX11_judge_18 ?_
    refine pv_getR (pc := 19) dX11_judge_19 fg_X11_38_11 rfl (by decide) (sx_16 hT) (rx_16_6 hR) ?_
    refine pv_iload_1 (pc := 22) dX11_judge_22 ?_
    refine pv_iload_2 (pc := 23) dX11_judge_23 ?_
    refine pv_callVq (pc := 24) dX11_judge_24 mgX11_tryRow lv_X11_206_11 (by decide) (sx_16 hT) (by omega) (c_try25 hW hX hb (by omega)) rfl rfl (by decide) (fun v t I L Rf hq => ?_)
    obtain ⟨rfl, rfl, rfl, hf, hx⟩ := hq
    refine pv_istore_4 (pc := 27) dX11_judge_27 (by decide) rfl ?_
    refine pv_iload_4 (pc := 29) dX11_judge_29 ?_
    refine pv_iload_2 (pc := 31) dX11_judge_31 ?_
    refine pv_icmp_ge (pc := 32) (tgt := 40) dX11_judge_32 (by decide) (fun h32 => ?_) (fun h32 => ?_)
    · refine pv_iconst (pc := 40) (v := (-1)) dX11_judge_40 (by decide) ?_
      refine pv_iret (pc := 41) dX11_judge_41 rfl rfl ?_
      refine qX.scr hX (hf.kC (by decide)) ?_
      unfold S_judge
      rw [if_pos eb]
      have hyl2 : (y_try J K s n).1 ≤ n.toNatClampNeg := by have := hyl; unfold y_try; omega
      cases hd1 : (w_D J K s n).1 with
      | true =>
        obtain ⟨g1, g2, g3⟩ := hty.1 hd1
        first
          | (have f1 := h32; rw [i_lt, i_of (by omega), g1] at f1; exfalso; have f2 : ((n.toNatClampNeg : Nat) : Int) < n.toInt := (by first | exact f1 | exact Classical.not_not.mp f1); omega)
          | (rw [g2]; done)
      | false =>
        obtain ⟨g1, g2⟩ := hty.2 hd1
        first
          | (rw [g2]; done)
          | (have f1 := h32; exfalso; rw [i_lt, i_of (by omega)] at f1; first | exact f1 (by omega) | (have f2 := Classical.not_not.mp f1; omega))
    · refine pv_iload_4 (pc := 35) dX11_judge_35 ?_
      refine pv_goto (pc := 37) (tgt := 41) dX11_judge_37 (by decide) ?_
      refine pv_iret (pc := 41) dX11_judge_41 rfl rfl ?_
      refine qX.scr hX (hf.kC (by decide)) ?_
      unfold S_judge
      rw [if_pos eb]
      have hyl2 : (y_try J K s n).1 ≤ n.toNatClampNeg := by have := hyl; unfold y_try; omega
      cases hd1 : (w_D J K s n).1 with
      | true =>
        obtain ⟨g1, g2, g3⟩ := hty.1 hd1
        first
          | (have f1 := h32; rw [i_lt, i_of (by omega), g1] at f1; exfalso; have f2 : ((n.toNatClampNeg : Nat) : Int) < n.toInt := (by first | exact f1 | exact Classical.not_not.mp f1); omega)
          | (rw [g2]; done)
      | false =>
        obtain ⟨g1, g2⟩ := hty.2 hd1
        first
          | (rw [g2]; done)
          | (have f1 := h32; exfalso; rw [i_lt, i_of (by omega)] at f1; first | exact f1 (by omega) | (have f2 := Classical.not_not.mp f1; omega))
  · refine pv_aload_0 (pc := 11) dX11_judge_11 ?_
    refine pv_iload_3 (pc := 12) dX11_judge_12 ?_
    refine pv_callV1 (pc := 13) dX11_judge_13 mgX11_refuse lv_X11_70_11 (by decide) (sx_16 hT) (by omega) (c_X11_refuse (k := (-(w_bars J s n)).toNatClampNeg) hT hR rfl (w_bars_in J s n)) rfl rfl (by decide) ?_
    refine pv_iret (pc := 16) dX11_judge_16 rfl rfl ?_
    rw [Int32.neg_neg]
    refine qX.ref hX (w_bars_n s n) ?_
    unfold S_judge; rw [if_neg (w_bars_nz h8)]

theorem try_t {J : pv_I} {K : pv_L} (hW : WF J K) {s n : Int32} (hb : w_bars J s n = 0) (h : ¬ Int32.ofNat (y_try J K s n).1 < n) : (w_D J K s n).1 = true := by
  obtain ⟨hin, hn0, hn160⟩ := w_bars_0 hW hb
  have hnl := i_lit n
  have hyl := (y_led_le J (K (1 + s.toNatClampNeg)) n.toNatClampNeg 0 (y_0 J K)).2
  have hyl2 : (y_try J K s n).1 ≤ n.toNatClampNeg := by unfold y_try; omega
  cases hd : (w_D J K s n).1 with
  | true => rfl
  | false =>
    obtain ⟨g1, g2⟩ := (try_y (K := K) hW hb).2 hd
    exact absurd (by rw [i_lt, i_of (by omega)]; omega) h
theorem try_f {J : pv_I} {K : pv_L} (hW : WF J K) {s n : Int32} (hb : w_bars J s n = 0) (h : Int32.ofNat (y_try J K s n).1 < n) : (w_D J K s n).1 = false := by
  obtain ⟨hin, hn0, hn160⟩ := w_bars_0 hW hb
  have hnl := i_lit n
  cases hd : (w_D J K s n).1 with
  | false => rfl
  | true =>
    obtain ⟨g1, g2, g3⟩ := (try_y (K := K) hW hb).1 hd
    rw [g1] at h
    rw [i_lt, i_of (by show n.toNatClampNeg < _; omega)] at h
    have h2 : ((n.toNatClampNeg : Nat) : Int) < n.toInt := h
    omega
theorem x_c24 {x : Int32} (h0 : ¬ x < 0) (h1 : ¬ x < 2) (h2 : ¬ 6 < x) (h3 : ¬ x = 6) : vp_in (x - 2) 4 := by
  simp only [i_lt, ← Int32.toInt_inj, (show (0 : Int32).toInt = 0 from by decide), (show (1 : Int32).toInt = 1 from by decide), (show (2 : Int32).toInt = 2 from by decide), (show (6 : Int32).toInt = 6 from by decide)] at h0 h1 h2 h3
  have e : (x - 2).toInt = x.toInt - 2 := by
    rw [Jvm.Kit.i32_sub (by rw [show (2 : Int32).toInt = 2 by decide]; omega) (by rw [show (2 : Int32).toInt = 2 by decide]; omega), show (2 : Int32).toInt = 2 by decide]
  exact pv_in_of (by omega) (by omega)
set_option maxRecDepth 100000 in
set_option maxHeartbeats 4000000 in
theorem c_X11_told {G : pv_G} {d : Nat} {J : pv_I} {K : pv_L} {s n x : Int32} {t : pv_T} {I : pv_I} {L : pv_L} {Rf : pv_R} (hW : WF J K) (hX : RX J K t I L Rf)  (hd : 60 ≤ d) : pv_Mt G mX11_told d 0 0 [.ref 16, .int s, .int n, .int x] t I L Rf (qX (S_told J K s n x) I L) := by
  refine pv_mt mgX11_told.2.2.2.2.2 [.ref 16, .int s, .int n, .int x, .retAddr 0] rfl (Nat.le_of_ble_eq_true rfl) ?_
  have hT := hX.1
  have hR := hX.2.1
  obtain ⟨-, -, ⟨xp, xq, xn, xst, xsp, xsd, xc⟩, xf, xs, xb, xi⟩ := id hX
  refine pv_aload_0 (pc := 0) dX11_told_0 ?_
  refine pv_iload_1 (pc := 1) dX11_told_1 ?_
  refine pv_iload_2 (pc := 2) dX11_told_2 ?_
  refine pv_callV1 (pc := 3) dX11_told_3 mgX11_noPart lv_X11_203_11 (by decide) (sx_16 hT) (by omega) (c_X11_noPart hW hX (by omega)) rfl rfl (by decide) ?_
  refine pv_istore_4 (pc := 6) dX11_told_6 (by decide) rfl ?_
  refine pv_iload_4 (pc := 8) dX11_told_8 ?_
  refine pv_if_ne (pc := 10) (tgt := 26) dX11_told_10 (by decide) (fun h10 => ?_) (fun h10 => ?_)
  · refine pv_iload_4 (pc := 26) dX11_told_26 ?_
    refine pv_if_ne (pc := 28) (tgt := 49) dX11_told_28 (by decide) (fun h28 => ?_) (fun h28 => absurd h28 h10)
    refine pv_iload_4 (pc := 49) dX11_told_49 ?_
    refine pv_if_eq (pc := 51) (tgt := 61) dX11_told_51 (by decide) (fun h51 => absurd h51 h10) (fun h51 => ?_)
    refine pv_aload_0 (pc := 54) dX11_told_54 ?_
    refine pv_iload_4 (pc := 55) dX11_told_55 ?_
    refine pv_callV1 (pc := 57) dX11_told_57 mgX11_refuseFar lv_X11_183_11 (by decide) (sx_16 hT) (by omega) (c_X11_refuseFar (k := (-(w_bars J s n)).toNatClampNeg) hT hR rfl (w_bars_in J s n) (by omega)) rfl rfl (by decide) ?_
    refine pv_lret (pc := 60) dX11_told_60 rfl ?_
    first
      | (have f1 := h14; refine qX.ref hX k_lt5b ?_; unfold S_told; rw [if_pos eb, if_pos (Or.inl f1)]; done)
      | (have f1 := h20; have f0 := h14; refine qX.ref hX k_lt5b ?_; unfold S_told; rw [if_pos eb, if_pos (Or.inr f1)]; done)
      | (have hd1 := try_f hW eb (by first | exact h42 | exact Classical.not_not.mp h42)
         refine qX.scrref hX (hf.kC (by decide)) k_l6 ?_
         unfold S_told
         rw [if_pos eb, if_neg (fun r => r.elim h14 h20), if_neg (by rw [hd1]; decide)]; done)
      | (rw [Int32.neg_neg]
         refine qX.ref hX (w_bars_n s n) ?_
         unfold S_told
         rw [if_neg (w_bars_nz h10)])
  · have ez : -(w_bars J s n) = 0 := (by first | exact h10 | exact Classical.not_not.mp h10)
    have eb : w_bars J s n = 0 := w_bars_z ez
    have hb := eb
    obtain ⟨hin, hn0, hn160⟩ := w_bars_0 hW eb
    have hnl := i_lit n
    have hty := try_y (K := K) hW eb
    have hyl := (y_led_le J (K (1 + s.toNatClampNeg)) n.toNatClampNeg 0 (y_0 J K)).2
    rw [ez]
    refine pv_iload_3 (pc := 13) dX11_told_13 ?_
    refine pv_if_lt (pc := 14) (tgt := 23) dX11_told_14 (by decide) (fun h14 => ?_) (fun h14 => ?_)
    · refine pv_iconst (pc := 23) (v := 5) dX11_told_23 (by decide) ?_
      refine pv_istore_4 (pc := 24) dX11_told_24 (by decide) rfl ?_
      refine pv_iload_4 (pc := 26) dX11_told_26 ?_
      refine pv_if_ne (pc := 28) (tgt := 49) dX11_told_28 (by decide) (fun _ => ?_) (fun q => absurd q (by decide))
      refine pv_iload_4 (pc := 49) dX11_told_49 ?_
      refine pv_if_eq (pc := 51) (tgt := 61) dX11_told_51 (by decide) (fun q => absurd q (by decide)) (fun _ => ?_)
      refine pv_aload_0 (pc := 54) dX11_told_54 ?_
      refine pv_iload_4 (pc := 55) dX11_told_55 ?_
      refine pv_callV1 (pc := 57) dX11_told_57 mgX11_refuseFar lv_X11_183_11 (by decide) (sx_16 hT) (by omega) (c_X11_refuseFar (k := 5) hT hR (by decide) (by unfold vp_in; decide) (by omega)) rfl rfl (by decide) ?_
      refine pv_lret (pc := 60) dX11_told_60 rfl ?_
      first
        | (have f1 := h14; refine qX.ref hX k_lt5b ?_; unfold S_told; rw [if_pos eb, if_pos (Or.inl f1)]; done)
        | (have f1 := h20; have f0 := h14; refine qX.ref hX k_lt5b ?_; unfold S_told; rw [if_pos eb, if_pos (Or.inr f1)]; done)
        | (have hd1 := try_f hW eb (by first | exact h42 | exact Classical.not_not.mp h42)
           refine qX.scrref hX (hf.kC (by decide)) k_l6 ?_
           unfold S_told
           rw [if_pos eb, if_neg (fun r => r.elim h14 h20), if_neg (by rw [hd1]; decide)]; done)
        | (rw [Int32.neg_neg]
           refine qX.ref hX (w_bars_n s n) ?_
           unfold S_told
           rw [if_neg (w_bars_nz h10)])
    · refine pv_iload_3 (pc := 17) dX11_told_17 ?_
      refine pv_bipush (pc := 18) (v := 6) dX11_told_18 (by decide) ?_
      refine pv_icmp_le (pc := 20) (tgt := 26) dX11_told_20 (by decide) (fun h20 => ?_) (fun h20 => ?_)
      · refine pv_iload_4 (pc := 26) dX11_told_26 ?_
        refine pv_if_ne (pc := 28) (tgt := 49) dX11_told_28 (by decide) (fun q => absurd q (by decide)) (fun _ => ?_)
        refine pv_aload_0 (pc := 31) dX11_told_31 ?_
        refine pv_aload_0 (pc := 32) dX11_told_32 ?_
        refine pv_getR (pc := 33) dX11_told_33 fg_X11_38_11 rfl (by decide) (sx_16 hT) (rx_16_6 hR) ?_
        refine pv_iload_1 (pc := 36) dX11_told_36 ?_
        refine pv_iload_2 (pc := 37) dX11_told_37 ?_
        refine pv_callVq (pc := 38) dX11_told_38 mgX11_tryRow lv_X11_206_11 (by decide) (sx_16 hT) (by omega) (c_try25 hW hX hb (by omega)) rfl rfl (by decide) (fun v t I L Rf hq => ?_)
        obtain ⟨rfl, rfl, rfl, hf, hx⟩ := hq
        have hyl2 : (y_try J K s n).1 ≤ n.toNatClampNeg := (by have := hyl; unfold y_try; omega)
        refine pv_iload_2 (pc := 41) dX11_told_41 ?_
        refine pv_icmp_ge (pc := 42) (tgt := 49) dX11_told_42 (by decide) (fun h42 => ?_) (fun h42 => ?_)
        · refine pv_iload_4 (pc := 49) dX11_told_49 ?_
          refine pv_if_eq (pc := 51) (tgt := 61) dX11_told_51 (by decide) (fun _ => ?_) (fun q => absurd q (by decide))
          have hd1 := try_t hW eb h42
          obtain ⟨g1, g2, g3⟩ := hty.1 hd1
          rw [g1] at hx
          obtain ⟨y1, y2, y3, y4, y5, y6, y7⟩ := hx
          have xsp2 := (hf.1 21 5 (by decide) (by decide)).trans xsp
          refine pv_iload_3 (pc := 61) dX11_told_61 ?_
          refine pv_iconst (pc := 62) (v := 2) dX11_told_62 (by decide) ?_
          refine pv_icmp_ge (pc := 63) (tgt := 88) dX11_told_63 (by decide) (fun h63 => ?_) (fun h63 => ?_)
          · refine pv_iload_3 (pc := 88) dX11_told_88 ?_
            refine pv_bipush (pc := 89) (v := 6) dX11_told_89 (by decide) ?_
            refine pv_icmp_ne (pc := 91) (tgt := 113) dX11_told_91 (by decide) (fun h91 => ?_) (fun h91 => ?_)
            · refine pv_aload_0 (pc := 113) dX11_told_113 ?_
              refine pv_getR (pc := 114) dX11_told_114 fg_X11_38_11 rfl (by decide) (sx_16 hT) (rx_16_6 hR) ?_
              refine pv_getR (pc := 117) dX11_told_117 fg_X11_193_4 rfl (by decide) (sx_25 hT) (rx_25_0 hR) ?_
              refine pv_iload_3 (pc := 120) dX11_told_120 ?_
              refine pv_iconst (pc := 121) (v := 2) dX11_told_121 (by decide) ?_
              refine pv_isub (pc := 122) dX11_told_122 ?_
              refine pv_ialoadj (pc := 123) dX11_told_123 (sx_26 hT) rfl (x_c24 h14 h63 h20 h91) ?_
              refine pv_i2l (pc := 124) dX11_told_124 ?_
              refine pv_lret (pc := 125) dX11_told_125 rfl ?_
              have e5 : I 21 5 = J 0 2 := xsp2
              refine qX.scr hX (hf.kC (by decide)) ?_
              unfold S_told
              rw [if_pos eb, if_neg (fun r => r.elim h14 h20), if_pos hd1]
              have f0 : ¬ x = 0 ∧ ¬ x = 1 := (by have q1 := h63; simp only [i_lt, ← Int32.toInt_inj, (show (0 : Int32).toInt = 0 from by decide), (show (1 : Int32).toInt = 1 from by decide), (show (2 : Int32).toInt = 2 from by decide)] at *; omega)
              rw [if_neg f0.1, if_neg f0.2]
              first
                | (have f1 : x = 6 := (by first | exact h91 | exact Classical.not_not.mp h91)
                   rw [if_pos f1, y5, e5]
                   rw [show J 0 2 + (w_D J K s n).2.2.2.2.2 - J 0 2 = (w_D J K s n).2.2.2.2.2 by grind])
                | (have f1 : ¬ x = 6 := h91
                   have hx4 := (pv_in_lt (x_c24 h14 h63 h20 f1)).2.2.1
                   rw [if_neg f1, y7 _ hx4])
            · refine pv_aload_0 (pc := 94) dX11_told_94 ?_
              refine pv_getR (pc := 95) dX11_told_95 fg_X11_38_11 rfl (by decide) (sx_16 hT) (rx_16_6 hR) ?_
              refine pv_getI (pc := 98) dX11_told_98 fg_X11_210_4 rfl (by decide) (sx_25 hT) ?_
              refine pv_aload_0 (pc := 101) dX11_told_101 ?_
              refine pv_getR (pc := 102) dX11_told_102 fg_X11_31_11 rfl (by decide) (sx_16 hT) (rx_16_4 hR) ?_
              refine pv_getI (pc := 105) dX11_told_105 fg_X11_210_4 rfl (by decide) (sx_21 hT) ?_
              refine pv_isub (pc := 108) dX11_told_108 ?_
              refine pv_i2l (pc := 109) dX11_told_109 ?_
              refine pv_goto (pc := 110) (tgt := 125) dX11_told_110 (by decide) ?_
              refine pv_lret (pc := 125) dX11_told_125 rfl ?_
              have e5 : I 21 5 = J 0 2 := xsp2
              refine qX.scr hX (hf.kC (by decide)) ?_
              unfold S_told
              rw [if_pos eb, if_neg (fun r => r.elim h14 h20), if_pos hd1]
              have f0 : ¬ x = 0 ∧ ¬ x = 1 := (by have q1 := h63; simp only [i_lt, ← Int32.toInt_inj, (show (0 : Int32).toInt = 0 from by decide), (show (1 : Int32).toInt = 1 from by decide), (show (2 : Int32).toInt = 2 from by decide)] at *; omega)
              rw [if_neg f0.1, if_neg f0.2]
              first
                | (have f1 : x = 6 := (by first | exact h91 | exact Classical.not_not.mp h91)
                   rw [if_pos f1, y5, e5]
                   rw [show J 0 2 + (w_D J K s n).2.2.2.2.2 - J 0 2 = (w_D J K s n).2.2.2.2.2 by grind])
                | (have f1 : ¬ x = 6 := h91
                   have hx4 := (pv_in_lt (x_c24 h14 h63 h20 f1)).2.2.1
                   rw [if_neg f1, y7 _ hx4])
          · refine pv_iload_3 (pc := 66) dX11_told_66 ?_
            refine pv_if_ne (pc := 67) (tgt := 80) dX11_told_67 (by decide) (fun h67 => ?_) (fun h67 => ?_)
            · refine pv_aload_0 (pc := 80) dX11_told_80 ?_
              refine pv_getR (pc := 81) dX11_told_81 fg_X11_38_11 rfl (by decide) (sx_16 hT) (rx_16_6 hR) ?_
              refine pv_getL (pc := 84) dX11_told_84 fg_X11_190_4 (by decide) (sx_25 hT) ?_
              refine pv_lret (pc := 87) dX11_told_87 rfl ?_
              refine qX.scr hX (hf.kC (by decide)) ?_
              unfold S_told
              rw [if_pos eb, if_neg (fun r => r.elim h14 h20), if_pos hd1]
              first
                | (have f1 : x = 0 := (by first | exact h67 | exact Classical.not_not.mp h67); rw [if_pos f1, y1]; done)
                | (have f0 : ¬ x = 0 := h67
                   have f1 : x = 1 := (by have q1 := h63; have q2 := h14; simp only [i_lt, ← Int32.toInt_inj, (show (0 : Int32).toInt = 0 from by decide), (show (1 : Int32).toInt = 1 from by decide), (show (2 : Int32).toInt = 2 from by decide)] at *; omega)
                   rw [if_neg f0, if_pos f1, y2])
            · refine pv_aload_0 (pc := 70) dX11_told_70 ?_
              refine pv_getR (pc := 71) dX11_told_71 fg_X11_38_11 rfl (by decide) (sx_16 hT) (rx_16_6 hR) ?_
              refine pv_getL (pc := 74) dX11_told_74 fg_X11_186_4 (by decide) (sx_25 hT) ?_
              refine pv_goto (pc := 77) (tgt := 87) dX11_told_77 (by decide) ?_
              refine pv_lret (pc := 87) dX11_told_87 rfl ?_
              refine qX.scr hX (hf.kC (by decide)) ?_
              unfold S_told
              rw [if_pos eb, if_neg (fun r => r.elim h14 h20), if_pos hd1]
              first
                | (have f1 : x = 0 := (by first | exact h67 | exact Classical.not_not.mp h67); rw [if_pos f1, y1]; done)
                | (have f0 : ¬ x = 0 := h67
                   have f1 : x = 1 := (by have q1 := h63; have q2 := h14; simp only [i_lt, ← Int32.toInt_inj, (show (0 : Int32).toInt = 0 from by decide), (show (1 : Int32).toInt = 1 from by decide), (show (2 : Int32).toInt = 2 from by decide)] at *; omega)
                   rw [if_neg f0, if_pos f1, y2])
        · refine pv_bipush (pc := 45) (v := 6) dX11_told_45 (by decide) ?_
          refine pv_istore_4 (pc := 47) dX11_told_47 (by decide) rfl ?_
          refine pv_iload_4 (pc := 49) dX11_told_49 ?_
          refine pv_if_eq (pc := 51) (tgt := 61) dX11_told_51 (by decide) (fun q => absurd q (by decide)) (fun _ => ?_)
          refine pv_aload_0 (pc := 54) dX11_told_54 ?_
          refine pv_iload_4 (pc := 55) dX11_told_55 ?_
          refine pv_callV1 (pc := 57) dX11_told_57 mgX11_refuseFar lv_X11_183_11 (by decide) (sx_16 hT) (by omega) (c_X11_refuseFar (k := 6) hT hR (by decide) (by unfold vp_in; decide) (by omega)) rfl rfl (by decide) ?_
          refine pv_lret (pc := 60) dX11_told_60 rfl ?_
          first
            | (have f1 := h14; refine qX.ref hX k_lt5b ?_; unfold S_told; rw [if_pos eb, if_pos (Or.inl f1)]; done)
            | (have f1 := h20; have f0 := h14; refine qX.ref hX k_lt5b ?_; unfold S_told; rw [if_pos eb, if_pos (Or.inr f1)]; done)
            | (have hd1 := try_f hW eb (by first | exact h42 | exact Classical.not_not.mp h42)
               refine qX.scrref hX (hf.kC (by decide)) k_l6 ?_
               unfold S_told
               rw [if_pos eb, if_neg (fun r => r.elim h14 h20), if_neg (by rw [hd1]; decide)]; done)
            | (rw [Int32.neg_neg]
               refine qX.ref hX (w_bars_n s n) ?_
               unfold S_told
               rw [if_neg (w_bars_nz h10)])
      · refine pv_iconst (pc := 23) (v := 5) dX11_told_23 (by decide) ?_
        refine pv_istore_4 (pc := 24) dX11_told_24 (by decide) rfl ?_
        refine pv_iload_4 (pc := 26) dX11_told_26 ?_
        refine pv_if_ne (pc := 28) (tgt := 49) dX11_told_28 (by decide) (fun _ => ?_) (fun q => absurd q (by decide))
        refine pv_iload_4 (pc := 49) dX11_told_49 ?_
        refine pv_if_eq (pc := 51) (tgt := 61) dX11_told_51 (by decide) (fun q => absurd q (by decide)) (fun _ => ?_)
        refine pv_aload_0 (pc := 54) dX11_told_54 ?_
        refine pv_iload_4 (pc := 55) dX11_told_55 ?_
        refine pv_callV1 (pc := 57) dX11_told_57 mgX11_refuseFar lv_X11_183_11 (by decide) (sx_16 hT) (by omega) (c_X11_refuseFar (k := 5) hT hR (by decide) (by unfold vp_in; decide) (by omega)) rfl rfl (by decide) ?_
        refine pv_lret (pc := 60) dX11_told_60 rfl ?_
        first
          | (have f1 := h14; refine qX.ref hX k_lt5b ?_; unfold S_told; rw [if_pos eb, if_pos (Or.inl f1)]; done)
          | (have f1 := h20; have f0 := h14; refine qX.ref hX k_lt5b ?_; unfold S_told; rw [if_pos eb, if_pos (Or.inr f1)]; done)
          | (have hd1 := try_f hW eb (by first | exact h42 | exact Classical.not_not.mp h42)
             refine qX.scrref hX (hf.kC (by decide)) k_l6 ?_
             unfold S_told
             rw [if_pos eb, if_neg (fun r => r.elim h14 h20), if_neg (by rw [hd1]; decide)]; done)
          | (rw [Int32.neg_neg]
             refine qX.ref hX (w_bars_n s n) ?_
             unfold S_told
             rw [if_neg (w_bars_nz h10)])

set_option maxRecDepth 100000 in
set_option maxHeartbeats 4000000 in
theorem c_X11_dances {G : pv_G} {d : Nat} {J : pv_I} {K : pv_L} {s n : Int32} {t : pv_T} {I : pv_I} {L : pv_L} {Rf : pv_R} (hW : WF J K) (hX : RX J K t I L Rf)  (hd : 60 ≤ d) : pv_Mt G mX11_dances d 0 0 [.ref 16, .int s, .int n] t I L Rf (qX (S_dances J K s n) I L) := by
  refine pv_mt mgX11_dances.2.2.2.2.2 [.ref 16, .int s, .int n, .retAddr 0] rfl (Nat.le_of_ble_eq_true rfl) ?_
  have hT := hX.1
  have hR := hX.2.1
  obtain ⟨-, -, ⟨xp, xq, xn, xst, xsp, xsd, xc⟩, xf, xs, xb, xi⟩ := id hX
  refine pv_aload_0 (pc := 0) dX11_dances_0 ?_
  refine pv_iload_1 (pc := 1) dX11_dances_1 ?_
  refine pv_iload_2 (pc := 2) dX11_dances_2 ?_
  refine pv_callV1 (pc := 3) dX11_dances_3 mgX11_noPart lv_X11_203_11 (by decide) (sx_16 hT) (by omega) (c_X11_noPart hW hX (by omega)) rfl rfl (by decide) ?_
  refine pv_istore_3 (pc := 6) dX11_dances_6 (by decide) rfl ?_
  refine pv_iload_3 (pc := 7) dX11_dances_7 ?_
  refine pv_if_ne (pc := 8) (tgt := 28) dX11_dances_8 (by decide) (fun h8 => ?_) (fun h8 => ?_)
  · refine pv_iload_3 (pc := 28) dX11_dances_28 ?_
    refine pv_if_eq (pc := 29) (tgt := 38) dX11_dances_29 (by decide) (fun h29 => absurd h29 h8) (fun h29 => ?_)
    refine pv_aload_0 (pc := 32) dX11_dances_32 ?_
    refine pv_iload_3 (pc := 33) dX11_dances_33 ?_
    refine pv_callV1 (pc := 34) dX11_dances_34 mgX11_refuse lv_X11_70_11 (by decide) (sx_16 hT) (by omega) (c_X11_refuse (k := (-(w_bars J s n)).toNatClampNeg) hT hR rfl (w_bars_in J s n)) rfl rfl (by decide) ?_
    refine pv_iret (pc := 37) dX11_dances_37 rfl rfl ?_
    first
      | (have hd1 := try_f hW eb (by first | exact h22 | exact Classical.not_not.mp h22)
         refine qX.scrref hX (hf.kC (by decide)) k_l6 ?_
         unfold S_dances
         rw [if_pos eb, if_neg (by rw [hd1]; decide)]; done)
      | (rw [Int32.neg_neg]
         refine qX.ref hX (w_bars_n s n) ?_
         unfold S_dances
         rw [if_neg (w_bars_nz h8)])
  · have ez : -(w_bars J s n) = 0 := (by first | exact h8 | exact Classical.not_not.mp h8)
    have eb : w_bars J s n = 0 := w_bars_z ez
    have hb := eb
    obtain ⟨hin, hn0, hn160⟩ := w_bars_0 hW eb
    have hnl := i_lit n
    have hty := try_y (K := K) hW eb
    have hyl := (y_led_le J (K (1 + s.toNatClampNeg)) n.toNatClampNeg 0 (y_0 J K)).2
    rw [ez]
    refine pv_aload_0 (pc := 11) dX11_dances_11 ?_
    refine pv_aload_0 (pc := 12) dX11_dances_12 ?_
    refine pv_getR (pc := 13) dX11_dances_13 fg_X11_38_11 rfl (by decide) (sx_16 hT) (rx_16_6 hR) ?_
    refine pv_iload_1 (pc := 16) dX11_dances_16 ?_
    refine pv_iload_2 (pc := 17) dX11_dances_17 ?_
    refine pv_callVq (pc := 18) dX11_dances_18 mgX11_tryRow lv_X11_206_11 (by decide) (sx_16 hT) (by omega) (c_try25 hW hX hb (by omega)) rfl rfl (by decide) (fun v t I L Rf hq => ?_)
    obtain ⟨rfl, rfl, rfl, hf, hx⟩ := hq
    have hyl2 : (y_try J K s n).1 ≤ n.toNatClampNeg := (by have := hyl; unfold y_try; omega)
    refine pv_iload_2 (pc := 21) dX11_dances_21 ?_
    refine pv_icmp_ge (pc := 22) (tgt := 28) dX11_dances_22 (by decide) (fun h22 => ?_) (fun h22 => ?_)
    · refine pv_iload_3 (pc := 28) dX11_dances_28 ?_
      refine pv_if_eq (pc := 29) (tgt := 38) dX11_dances_29 (by decide) (fun _ => ?_) (fun q => absurd q (by decide))
      have hd1 := try_t hW eb h22
      obtain ⟨g1, g2, g3⟩ := hty.1 hd1
      rw [g1] at hx
      have hX1 := hX.scr (hf.kC (by decide))
      refine pv_aload_0 (pc := 38) dX11_dances_38 ?_
      refine pv_getR (pc := 39) dX11_dances_39 fg_X11_31_11 rfl (by decide) (sx_16 hT) (rx_16_4 hR) ?_
      refine pv_aload_0 (pc := 42) dX11_dances_42 ?_
      refine pv_getR (pc := 43) dX11_dances_43 fg_X11_38_11 rfl (by decide) (sx_16 hT) (rx_16_6 hR) ?_
      refine pv_callVq (pc := 46) dX11_dances_46 mgX4_takeFrom lv_X11_169_4 (by decide) (sx_21 hT) (by omega) (c_tk_21_25 hT hR hx (by omega)) rfl rfl (by decide) (fun v t I L Rf hq => ?_)
      obtain ⟨rfl, rfl, rfl, hf2, hx2⟩ := hq
      refine pv_aload_0 (pc := 49) dX11_dances_49 ?_
      refine pv_getR (pc := 50) dX11_dances_50 fg_X11_31_11 rfl (by decide) (sx_16 hT) (rx_16_4 hR) ?_
      refine pv_getI (pc := 53) dX11_dances_53 fg_X11_200_4 rfl (by decide) (sx_21 hT) ?_
      refine pv_iret (pc := 56) dX11_dances_56 rfl rfl ?_
      have e : S_dances J K s n = (.int (J 0 1 + n), w_dn J (w_D J K s n).2.2.2.2.1 n (w_D J K s n).2.2.2.2.2, w_pq K (w_D J K s n).2.2.1 (w_D J K s n).2.2.2.1) := by unfold S_dances; rw [if_pos eb, if_pos hd1]
      rw [e]
      exact ⟨congrArg (fun z => some (Value.int z)) hx2.2.2.2.1, hX1.dn hf2 hx2, (hf.kM (by decide)).tr (hf2.kM (by decide))⟩
    · refine pv_bipush (pc := 25) (v := 6) dX11_dances_25 (by decide) ?_
      refine pv_istore_3 (pc := 27) dX11_dances_27 (by decide) rfl ?_
      refine pv_iload_3 (pc := 28) dX11_dances_28 ?_
      refine pv_if_eq (pc := 29) (tgt := 38) dX11_dances_29 (by decide) (fun q => absurd q (by decide)) (fun _ => ?_)
      refine pv_aload_0 (pc := 32) dX11_dances_32 ?_
      refine pv_iload_3 (pc := 33) dX11_dances_33 ?_
      refine pv_callV1 (pc := 34) dX11_dances_34 mgX11_refuse lv_X11_70_11 (by decide) (sx_16 hT) (by omega) (c_X11_refuse (k := 6) hT hR (by decide) (by unfold vp_in; decide)) rfl rfl (by decide) ?_
      refine pv_iret (pc := 37) dX11_dances_37 rfl rfl ?_
      first
        | (have hd1 := try_f hW eb (by first | exact h22 | exact Classical.not_not.mp h22)
           refine qX.scrref hX (hf.kC (by decide)) k_l6 ?_
           unfold S_dances
           rw [if_pos eb, if_neg (by rw [hd1]; decide)]; done)
        | (rw [Int32.neg_neg]
           refine qX.ref hX (w_bars_n s n) ?_
           unfold S_dances
           rw [if_neg (w_bars_nz h8)])

