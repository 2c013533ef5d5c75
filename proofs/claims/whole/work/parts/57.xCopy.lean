/-! the class: show copy -/

set_option maxRecDepth 100000 in
set_option maxHeartbeats 4000000 in
theorem c_X11_show {G : pv_G} {d : Nat} {J : pv_I} {K : pv_L} {s f : Int32} {t : pv_T} {I : pv_I} {L : pv_L} {Rf : pv_R} (hW : WF J K) (hX : RX J K t I L Rf)  (hd : 60 ≤ d) : pv_Mt G mX11_show d 0 0 [.ref 16, .int s, .int f] t I L Rf (qX (S_show J K s f) I L) := by
  refine pv_mt mgX11_show.2.2.2.2.2 [.ref 16, .int s, .int f, .retAddr 0] rfl (Nat.le_of_ble_eq_true rfl) ?_
  have hT := hX.1
  have hR := hX.2.1
  obtain ⟨-, -, ⟨xp, xq, xn, xst, xsp, xsd, xc⟩, xf, xs, xb, xi⟩ := id hX
  by_cases hs : s_sh s = true
  · have hin := s_sh_in hs
    have hs8 : s.toNatClampNeg < 8 := (pv_in_lt hin).2.2.1
    have hkd := x_kind hW hX hs8
    by_cases hf1 : f = -1
    · skip
      refine pv_aload_0 (pc := 0) dX11_show_0 ?_
      refine pv_iload_1 (pc := 1) dX11_show_1 ?_
      refine pv_callV1 (pc := 2) dX11_show_2 mgX11_shelfAt lv_X11_66_11 (by decide) (sx_16 hT) (by omega) (c_X11_shelfAt1 hT hR hin) rfl rfl (by decide) ?_
      refine pv_astore_3 (pc := 5) dX11_show_5 (by decide) rfl ?_
      refine pv_aload_3 (pc := 6) dX11_show_6 ?_
      refine pv_ifnull (pc := 7) dX11_show_7 ?_
      refine pv_iload_2 (pc := 10) dX11_show_10 ?_
      refine pv_iconst (pc := 11) (v := (-1)) dX11_show_11 (by decide) ?_
      refine pv_icmp_eq (pc := 12) (tgt := 33) dX11_show_12 (by decide) (fun h12 => ?_) (fun h12 => absurd h12 (not_not_intro hf1))
      refine pv_aload_3 (pc := 33) dX11_show_33 ?_
      refine pv_iload_2 (pc := 34) dX11_show_34 ?_
      refine pv_callV0 (pc := 35) dX11_show_35 mgX8_takeFigure lv_X11_118_8 (by omega) (sx_sh hT hs8) (by omega) (c_X8_takeFigure hT hR hs8) rfl rfl (by decide) ?_
      refine pv_iload_2 (pc := 38) dX11_show_38 ?_
      refine pv_iconst (pc := 39) (v := (-1)) dX11_show_39 (by decide) ?_
      refine pv_icmp_ne (pc := 40) (tgt := 47) dX11_show_40 (by decide) (fun h40 => absurd h40 (not_not_intro hf1)) (fun h40 => ?_)
      refine pv_iconst (pc := 43) (v := 0) dX11_show_43 (by decide) ?_
      refine pv_goto (pc := 44) (tgt := 48) dX11_show_44 (by decide) ?_
      refine pv_iret (pc := 48) dX11_show_48 rfl rfl ?_
      have e : S_show J K s f = (.int 0, pv_u (pv_u J 6 s.toNatClampNeg 0) 9 s.toNatClampNeg f, K) := by unfold S_show; rw [if_pos ⟨hs, Or.inl hf1⟩, if_pos hf1, if_pos hf1]
      rw [e]
      have hI : ∀ a j, a ≠ 45 + 2 * s.toNatClampNeg → x_tr I s.toNatClampNeg (-1) 0 f a j = I a j := fun a j h => x_tr_o h
      refine ⟨rfl, hX.shelf hs8 hI (fun _ _ _ => rfl) (fun a j h => ?_) (fun _ _ _ => rfl) ⟨fun q => ?_, fun q => ?_, fun q => ?_⟩, kM.s hs8 hI (fun _ _ _ => rfl)⟩
      · show pv_u (pv_u J 6 s.toNatClampNeg 0) 9 s.toNatClampNeg f a j = J a j
        rw [pv_u_o _ (by omega), pv_u_o _ (by omega)]
      · exact ⟨x_tr_1.1, x_tr_1.2.1, by rw [x_tr_1.2.2, hf1]⟩
      · exact absurd (show (0 : Int32) = 1 by simpa [pv_u_app] using q) (by decide)
      · exact absurd (show (0 : Int32) = 2 by simpa [pv_u_app] using q) (by decide)
    · by_cases hF : w_isF J f
      · obtain ⟨x, fx1, fx2, fx3, fx4, fx5, fx6, fx7, fx8, hfb⟩ := xf _ (hF.nat hW).2
        have hF8 := (hF.nat hW).1
        have hFc : f < I 21 3 := by rw [xn]; exact hF.2
        refine pv_aload_0 (pc := 0) dX11_show_0 ?_
        refine pv_iload_1 (pc := 1) dX11_show_1 ?_
        refine pv_callV1 (pc := 2) dX11_show_2 mgX11_shelfAt lv_X11_66_11 (by decide) (sx_16 hT) (by omega) (c_X11_shelfAt1 hT hR hin) rfl rfl (by decide) ?_
        refine pv_astore_3 (pc := 5) dX11_show_5 (by decide) rfl ?_
        refine pv_aload_3 (pc := 6) dX11_show_6 ?_
        refine pv_ifnull (pc := 7) dX11_show_7 ?_
        refine pv_iload_2 (pc := 10) dX11_show_10 ?_
        refine pv_iconst (pc := 11) (v := (-1)) dX11_show_11 (by decide) ?_
        refine pv_icmp_eq (pc := 12) (tgt := 33) dX11_show_12 (by decide) (fun h12 => absurd h12 hf1) (fun h12 => ?_)
        refine pv_aload_0 (pc := 15) dX11_show_15 ?_
        refine pv_aload_0 (pc := 16) dX11_show_16 ?_
        refine pv_getR (pc := 17) dX11_show_17 fg_X11_31_11 rfl (by decide) (sx_16 hT) (rx_16_4 hR) ?_
        refine pv_iload_2 (pc := 20) dX11_show_20 ?_
        refine pv_callV1 (pc := 21) dX11_show_21 mgX11_figureAt lv_X11_114_11 (by decide) (sx_16 hT) (by omega) (c_X11_figureAt1 hT hR (by decide) (sx_21 hT) hF8 hFc fx1) rfl rfl (by decide) ?_
        refine pv_ifnonnull (pc := 24) (tgt := 33) dX11_show_24 (by decide) ?_
        refine pv_aload_3 (pc := 33) dX11_show_33 ?_
        refine pv_iload_2 (pc := 34) dX11_show_34 ?_
        refine pv_callV0 (pc := 35) dX11_show_35 mgX8_takeFigure lv_X11_118_8 (by omega) (sx_sh hT hs8) (by omega) (c_X8_takeFigure hT hR hs8) rfl rfl (by decide) ?_
        refine pv_iload_2 (pc := 38) dX11_show_38 ?_
        refine pv_iconst (pc := 39) (v := (-1)) dX11_show_39 (by decide) ?_
        refine pv_icmp_ne (pc := 40) (tgt := 47) dX11_show_40 (by decide) (fun h40 => ?_) (fun h40 => absurd h40 hf1)
        refine pv_iconst (pc := 47) (v := 1) dX11_show_47 (by decide) ?_
        refine pv_iret (pc := 48) dX11_show_48 rfl rfl ?_
        have e : S_show J K s f = (.int 1, pv_u (pv_u J 6 s.toNatClampNeg 2) 9 s.toNatClampNeg f, K) := by unfold S_show; rw [if_pos ⟨hs, Or.inr hF⟩, if_neg hf1, if_neg hf1]
        rw [e]
        have hI : ∀ a j, a ≠ 45 + 2 * s.toNatClampNeg → x_tr I s.toNatClampNeg (-1) 0 f a j = I a j := fun a j h => x_tr_o h
        refine ⟨rfl, hX.shelf hs8 hI (fun _ _ _ => rfl) (fun a j h => ?_) (fun _ _ _ => rfl) ⟨fun q => ?_, fun q => ?_, fun q => ?_⟩, kM.s hs8 hI (fun _ _ _ => rfl)⟩
        · show pv_u (pv_u J 6 s.toNatClampNeg 2) 9 s.toNatClampNeg f a j = J a j
          rw [pv_u_o _ (by omega), pv_u_o _ (by omega)]
        · exact absurd (show (2 : Int32) = 0 by simpa [pv_u_app] using q) (by decide)
        · exact absurd (show (2 : Int32) = 1 by simpa [pv_u_app] using q) (by decide)
        · exact ⟨x_tr_1.1, x_tr_1.2.1, by rw [x_tr_1.2.2]; simp [pv_u_app]⟩
      · have hFn : ¬ (0 ≤ f ∧ f < I 21 3 ∧ f < 8) := fun q => hF ⟨q.1, by rw [← xn]; exact q.2.1⟩
        refine pv_aload_0 (pc := 0) dX11_show_0 ?_
        refine pv_iload_1 (pc := 1) dX11_show_1 ?_
        refine pv_callV1 (pc := 2) dX11_show_2 mgX11_shelfAt lv_X11_66_11 (by decide) (sx_16 hT) (by omega) (c_X11_shelfAt1 hT hR hin) rfl rfl (by decide) ?_
        refine pv_astore_3 (pc := 5) dX11_show_5 (by decide) rfl ?_
        refine pv_aload_3 (pc := 6) dX11_show_6 ?_
        refine pv_ifnull (pc := 7) dX11_show_7 ?_
        refine pv_iload_2 (pc := 10) dX11_show_10 ?_
        refine pv_iconst (pc := 11) (v := (-1)) dX11_show_11 (by decide) ?_
        refine pv_icmp_eq (pc := 12) (tgt := 33) dX11_show_12 (by decide) (fun h12 => absurd h12 hf1) (fun h12 => ?_)
        refine pv_aload_0 (pc := 15) dX11_show_15 ?_
        refine pv_aload_0 (pc := 16) dX11_show_16 ?_
        refine pv_getR (pc := 17) dX11_show_17 fg_X11_31_11 rfl (by decide) (sx_16 hT) (rx_16_4 hR) ?_
        refine pv_iload_2 (pc := 20) dX11_show_20 ?_
        refine pv_callV1 (pc := 21) dX11_show_21 mgX11_figureAt lv_X11_114_11 (by decide) (sx_16 hT) (by omega) (c_X11_figureAt0 hT hR (by decide) (sx_21 hT) hFn) rfl rfl (by decide) ?_
        refine pv_ifnonnullN (pc := 24) dX11_show_24 ?_
        refine pv_aload_0 (pc := 27) dX11_show_27 ?_
        refine pv_iconst (pc := 28) (v := 1) dX11_show_28 (by decide) ?_
        refine pv_callV1 (pc := 29) dX11_show_29 mgX11_refuse lv_X11_70_11 (by decide) (sx_16 hT) (by omega) (c_X11_refuse (k := 1) hT hR (by decide) (by unfold vp_in; decide)) rfl rfl (by decide) ?_
        refine pv_iret (pc := 32) dX11_show_32 rfl rfl ?_
        refine qX.ref hX (by decide : 1 < 8) ?_; unfold S_show; rw [if_neg (fun q => q.2.elim hf1 hF)]
  · have hs0 : s_sh s = false := by simpa using hs
    refine pv_aload_0 (pc := 0) dX11_show_0 ?_
    refine pv_iload_1 (pc := 1) dX11_show_1 ?_
    refine pv_callV1 (pc := 2) dX11_show_2 mgX11_shelfAt lv_X11_66_11 (by decide) (sx_16 hT) (by omega) (c_X11_shelfAt0 hT hR hs0) rfl rfl (by decide) ?_
    refine pv_astoreN_3 (pc := 5) dX11_show_5 (by decide) rfl ?_
    refine pv_aloadN_3 (pc := 6) dX11_show_6 ?_
    refine pv_ifnullN (pc := 7) (tgt := 27) dX11_show_7 (by decide) ?_
    refine pv_aload_0 (pc := 27) dX11_show_27 ?_
    refine pv_iconst (pc := 28) (v := 1) dX11_show_28 (by decide) ?_
    refine pv_callV1 (pc := 29) dX11_show_29 mgX11_refuse lv_X11_70_11 (by decide) (sx_16 hT) (by omega) (c_X11_refuse (k := 1) hT hR (by decide) (by unfold vp_in; decide)) rfl rfl (by decide) ?_
    refine pv_iret (pc := 32) dX11_show_32 rfl rfl ?_
    refine qX.ref hX (by decide : 1 < 8) ?_; unfold S_show; rw [if_neg (fun q => by rw [hs0] at q; exact absurd q.1 (by decide))]

def x_fo (J : pv_I) (p q : Int32) : Int32 := if -(w_wants J p) = 0 ∨ -(w_wants J q) = 0 then -(w_wants J p) + -(w_wants J q) else if -(w_wants J q) < -(w_wants J p) then -(w_wants J q) else -(w_wants J p)
theorem w_cls {J : pv_I} {K : pv_L} (hW : WF J K) (s : Int32) : (s_sh s = false ∧ w_wants J s = -1) ∨ (s_sh s = true ∧ w_sh J s = 0 ∧ w_wants J s = -3) ∨ (s_sh s = true ∧ w_sh J s = 1 ∧ w_wants J s = 0) ∨ (s_sh s = true ∧ w_sh J s = 2 ∧ w_wants J s = -2) := by
  cases hs : s_sh s with
  | false => exact Or.inl ⟨rfl, w_wants_n0 hs⟩
  | true =>
    rcases (hW.2.2.2.1 _ (pv_in_lt (s_sh_in hs)).2.2.1).1 with w | w | w
    · exact Or.inr (Or.inl ⟨rfl, w, (w_wants_k hs).1 w⟩)
    · exact Or.inr (Or.inr (Or.inl ⟨rfl, w, (w_wants_k hs).2.1 w⟩))
    · exact Or.inr (Or.inr (Or.inr ⟨rfl, w, (w_wants_k hs).2.2 w⟩))
theorem x_fo_ne {J : pv_I} {K : pv_L} (hW : WF J K) (p q i j n : Int32) (h : ¬ x_fo J p q = 0) : S_copy J K p q i j n = S_ref J K (x_fo J p q).toNatClampNeg (.int (-(x_fo J p q))) ∧ vp_in (x_fo J p q) 8 := by
  unfold x_fo at h ⊢
  unfold S_copy
  rcases w_cls hW p with ⟨a1, a3⟩ | ⟨a1, a2, a3⟩ | ⟨a1, a2, a3⟩ | ⟨a1, a2, a3⟩ <;> rcases w_cls hW q with ⟨b1, b3⟩ | ⟨b1, b2, b3⟩ | ⟨b1, b2, b3⟩ | ⟨b1, b2, b3⟩ <;> simp only [a1, b1, a3, b3] at h ⊢ <;> (try simp only [a2]) <;> (try simp only [b2]) <;> first | exact absurd (by decide) h | exact ⟨rfl, by unfold vp_in; decide⟩
theorem x_fo_eq {J : pv_I} {K : pv_L} (hW : WF J K) {p q : Int32} (h : x_fo J p q = 0) : w_wants J p = 0 ∧ w_wants J q = 0 := by
  unfold x_fo at h
  rcases w_wants_c J p with g | g | g | g <;> rcases w_wants_c J q with f | f | f | f <;> rw [g, f] at h <;> first | exact ⟨g, f⟩ | exact absurd h (by decide)
def x_hp (z : Int32) (i n : Int32) : Bool := decide (0 ≤ i) && decide (0 ≤ n) && decide (i.toInt + n.toInt ≤ z.toInt)
theorem x_l3 (z i n : Int32) : (z.toInt64 < i.toInt64 + n.toInt64) ↔ z.toInt < i.toInt + n.toInt := by
  have h1 := Int32.toInt_lt i
  have h2 := Int32.le_toInt i
  have h3 := Int32.toInt_lt n
  have h4 := Int32.le_toInt n
  rw [l64_lt, l64_add (by rw [Int32.toInt_toInt64, Int32.toInt_toInt64]; omega) (by rw [Int32.toInt_toInt64, Int32.toInt_toInt64]; omega), Int32.toInt_toInt64, Int32.toInt_toInt64, Int32.toInt_toInt64]
set_option maxRecDepth 100000 in
set_option maxHeartbeats 4000000 in
theorem c_X8_hasPart {G : pv_G} {d : Nat} {i n : Int32} {k : Nat} {t : pv_T} {I : pv_I} {L : pv_L} {Rf : pv_R} (hT : sh_ok t) (hR : rf_ok Rf) (hs8 : k < 8) : pv_Mt G mX8_hasPart d 0 0 [.ref (45 + 2 * k), .int i, .int n] t I L Rf (pv_is (some (.int (pv_b (x_hp (I (45 + 2 * k) 2) i n)))) t I L Rf) := by
  refine pv_mt mgX8_hasPart.2.2.2.2.2 [.ref (45 + 2 * k), .int i, .int n] rfl (Nat.le_of_ble_eq_true rfl) ?_
  refine pv_iload_1 (pc := 0) dX8_hasPart_0 ?_
  refine pv_if_lt (pc := 1) (tgt := 26) dX8_hasPart_1 (by decide) (fun h1 => ?_) (fun h1 => ?_)
  · refine pv_iconst (pc := 26) (v := 0) dX8_hasPart_26 (by decide) ?_
    refine pv_iret (pc := 27) dX8_hasPart_27 rfl rfl ?_
    refine ⟨congrArg (fun z => some (Value.int z)) ?_, rfl, rfl, rfl, rfl⟩
    unfold x_hp
    first
      | (have f1 := h1; rw [decide_eq_false (p := 0 ≤ i) (by rw [i_le]; rw [i_lt] at f1; omega)]; rfl)
      | (have f1 := h5; rw [decide_eq_false (p := 0 ≤ n) (by rw [i_le]; rw [i_lt] at f1; omega), Bool.and_false]; rfl)
      | (have f1 := h18; rw [x_l3] at f1; rw [decide_eq_false (p := i.toInt + n.toInt ≤ (I (45 + 2 * k) 2).toInt) (by omega), Bool.and_false]; rfl)
      | (have f1 := h1; have f2 := h5; have f3 := h18; rw [x_l3] at f3; rw [decide_eq_true (p := 0 ≤ i) (by rw [i_le]; rw [i_lt] at f1; omega), decide_eq_true (p := 0 ≤ n) (by rw [i_le]; rw [i_lt] at f2; omega), decide_eq_true (p := i.toInt + n.toInt ≤ (I (45 + 2 * k) 2).toInt) (by omega)]; rfl)
  · refine pv_iload_2 (pc := 4) dX8_hasPart_4 ?_
    refine pv_if_lt (pc := 5) (tgt := 26) dX8_hasPart_5 (by decide) (fun h5 => ?_) (fun h5 => ?_)
    · refine pv_iconst (pc := 26) (v := 0) dX8_hasPart_26 (by decide) ?_
      refine pv_iret (pc := 27) dX8_hasPart_27 rfl rfl ?_
      refine ⟨congrArg (fun z => some (Value.int z)) ?_, rfl, rfl, rfl, rfl⟩
      unfold x_hp
      first
        | (have f1 := h1; rw [decide_eq_false (p := 0 ≤ i) (by rw [i_le]; rw [i_lt] at f1; omega)]; rfl)
        | (have f1 := h5; rw [decide_eq_false (p := 0 ≤ n) (by rw [i_le]; rw [i_lt] at f1; omega), Bool.and_false]; rfl)
        | (have f1 := h18; rw [x_l3] at f1; rw [decide_eq_false (p := i.toInt + n.toInt ≤ (I (45 + 2 * k) 2).toInt) (by omega), Bool.and_false]; rfl)
        | (have f1 := h1; have f2 := h5; have f3 := h18; rw [x_l3] at f3; rw [decide_eq_true (p := 0 ≤ i) (by rw [i_le]; rw [i_lt] at f1; omega), decide_eq_true (p := 0 ≤ n) (by rw [i_le]; rw [i_lt] at f2; omega), decide_eq_true (p := i.toInt + n.toInt ≤ (I (45 + 2 * k) 2).toInt) (by omega)]; rfl)
    · refine pv_iload_1 (pc := 8) dX8_hasPart_8 ?_
      refine pv_i2l (pc := 9) dX8_hasPart_9 ?_
      refine pv_iload_2 (pc := 10) dX8_hasPart_10 ?_
      refine pv_i2l (pc := 11) dX8_hasPart_11 ?_
      refine pv_ladd (pc := 12) dX8_hasPart_12 ?_
      refine pv_aload_0 (pc := 13) dX8_hasPart_13 ?_
      refine pv_getI (pc := 14) dX8_hasPart_14 fg_X8_25_8 rfl (by omega) (sx_sh hT hs8) ?_
      refine pv_i2l (pc := 17) dX8_hasPart_17 ?_
      refine pv_lcmp_gt (pc := 18) (tgt := 26) dX8_hasPart_18 dX8_hasPart_19 (by decide) (fun h18 => ?_) (fun h18 => ?_)
      · refine pv_iconst (pc := 26) (v := 0) dX8_hasPart_26 (by decide) ?_
        refine pv_iret (pc := 27) dX8_hasPart_27 rfl rfl ?_
        refine ⟨congrArg (fun z => some (Value.int z)) ?_, rfl, rfl, rfl, rfl⟩
        unfold x_hp
        first
          | (have f1 := h1; rw [decide_eq_false (p := 0 ≤ i) (by rw [i_le]; rw [i_lt] at f1; omega)]; rfl)
          | (have f1 := h5; rw [decide_eq_false (p := 0 ≤ n) (by rw [i_le]; rw [i_lt] at f1; omega), Bool.and_false]; rfl)
          | (have f1 := h18; rw [x_l3] at f1; rw [decide_eq_false (p := i.toInt + n.toInt ≤ (I (45 + 2 * k) 2).toInt) (by omega), Bool.and_false]; rfl)
          | (have f1 := h1; have f2 := h5; have f3 := h18; rw [x_l3] at f3; rw [decide_eq_true (p := 0 ≤ i) (by rw [i_le]; rw [i_lt] at f1; omega), decide_eq_true (p := 0 ≤ n) (by rw [i_le]; rw [i_lt] at f2; omega), decide_eq_true (p := i.toInt + n.toInt ≤ (I (45 + 2 * k) 2).toInt) (by omega)]; rfl)
      · refine pv_iconst (pc := 22) (v := 1) dX8_hasPart_22 (by decide) ?_
        refine pv_goto (pc := 23) (tgt := 27) dX8_hasPart_23 (by decide) ?_
        refine pv_iret (pc := 27) dX8_hasPart_27 rfl rfl ?_
        refine ⟨congrArg (fun z => some (Value.int z)) ?_, rfl, rfl, rfl, rfl⟩
        unfold x_hp
        first
          | (have f1 := h1; rw [decide_eq_false (p := 0 ≤ i) (by rw [i_le]; rw [i_lt] at f1; omega)]; rfl)
          | (have f1 := h5; rw [decide_eq_false (p := 0 ≤ n) (by rw [i_le]; rw [i_lt] at f1; omega), Bool.and_false]; rfl)
          | (have f1 := h18; rw [x_l3] at f1; rw [decide_eq_false (p := i.toInt + n.toInt ≤ (I (45 + 2 * k) 2).toInt) (by omega), Bool.and_false]; rfl)
          | (have f1 := h1; have f2 := h5; have f3 := h18; rw [x_l3] at f3; rw [decide_eq_true (p := 0 ≤ i) (by rw [i_le]; rw [i_lt] at f1; omega), decide_eq_true (p := 0 ≤ n) (by rw [i_le]; rw [i_lt] at f2; omega), decide_eq_true (p := i.toInt + n.toInt ≤ (I (45 + 2 * k) 2).toInt) (by omega)]; rfl)

theorem x_cpz {zp zq i j n : Int32} (h1 : x_hp zp i n = true) (h2 : x_hp zq j n = true) (h3 : ¬ n < 0) : ¬ i < 0 ∧ ¬ j < 0 ∧ (i.toNatClampNeg : Int) + n.toNatClampNeg ≤ zp.toInt ∧ (j.toNatClampNeg : Int) + n.toNatClampNeg ≤ zq.toInt := by
  have a1 := i_lit i
  have a2 := i_lit j
  have a3 := i_lit n
  simp only [x_hp, Bool.and_eq_true, decide_eq_true_eq, i_le, Int32.toInt_zero] at h1 h2
  simp only [i_lt, Int32.toInt_zero]
  rw [i_lt, Int32.toInt_zero] at h3
  omega
set_option maxRecDepth 100000 in
set_option maxHeartbeats 4000000 in
theorem c_X11_copy {G : pv_G} {d : Nat} {J : pv_I} {K : pv_L} {p q i j n : Int32} {t : pv_T} {I : pv_I} {L : pv_L} {Rf : pv_R} (hW : WF J K) (hX : RX J K t I L Rf)  (hd : 60 ≤ d) : pv_Mt G mX11_copy d 0 0 [.ref 16, .int p, .int q, .int i, .int j, .int n] t I L Rf (qX (S_copy J K p q i j n) I L) := by
  refine pv_mt mgX11_copy.2.2.2.2.2 [.ref 16, .int p, .int q, .int i, .int j, .int n, .retAddr 0, .retAddr 0, .retAddr 0] rfl (Nat.le_of_ble_eq_true rfl) ?_
  have hT := hX.1
  have hR := hX.2.1
  obtain ⟨-, -, ⟨xp, xq, xn, xst, xsp, xsd, xc⟩, xf, xs, xb, xi⟩ := id hX
  cases hsp : s_sh p with
  | false =>
    have hfo : ¬ x_fo J p q = 0 := fun z => by
      have g := x_fo_eq hW z
      first
        | (rw [w_wants_n0 hsp] at g; exact absurd g.1 (by decide))
        | (rw [w_wants_n0 hsq] at g; exact absurd g.2 (by decide))
    cases hsq : s_sh q with
    | false =>
      refine pv_aload_0 (pc := 0) dX11_copy_0 ?_
      refine pv_iload_1 (pc := 1) dX11_copy_1 ?_
      refine pv_callV1 (pc := 2) dX11_copy_2 mgX11_noRow lv_X11_78_11 (by decide) (sx_16 hT) (by omega) (c_X11_noRow hW hX (by omega)) rfl rfl (by decide) ?_
      refine pv_aload_0 (pc := 5) dX11_copy_5 ?_
      refine pv_iload_2 (pc := 6) dX11_copy_6 ?_
      refine pv_callV1 (pc := 7) dX11_copy_7 mgX11_noRow lv_X11_78_11 (by decide) (sx_16 hT) (by omega) (c_X11_noRow hW hX (by omega)) rfl rfl (Nat.le_of_ble_eq_true rfl) ?_
      refine pv_callS1 (pc := 10) dX11_copy_10 mgX11_firstOf ls_X11_89 (by omega) (c_X11_firstOf (by omega)) rfl rfl (by decide) ?_
      refine pv_istore_6 (pc := 13) dX11_copy_13 (by decide) rfl ?_
      refine pv_aload_0 (pc := 15) dX11_copy_15 ?_
      refine pv_iload_1 (pc := 16) dX11_copy_16 ?_
      refine pv_callV1 (pc := 17) dX11_copy_17 mgX11_shelfAt lv_X11_66_11 (by decide) (sx_16 hT) (by omega) (c_X11_shelfAt0 hT hR hsp) rfl rfl (by decide) ?_
      refine pv_astoreN_7 (pc := 20) dX11_copy_20 (by decide) rfl ?_
      refine pv_aload_0 (pc := 22) dX11_copy_22 ?_
      refine pv_iload_2 (pc := 23) dX11_copy_23 ?_
      refine pv_callV1 (pc := 24) dX11_copy_24 mgX11_shelfAt lv_X11_66_11 (by decide) (sx_16 hT) (by omega) (c_X11_shelfAt0 hT hR hsq) rfl rfl (by decide) ?_
      refine pv_astoreN_8 (pc := 27) dX11_copy_27 (by decide) rfl ?_
      refine pv_iload_6 (pc := 29) dX11_copy_29 ?_
      refine pv_if_ne (pc := 31) (tgt := 44) dX11_copy_31 (by decide) (fun h31 => ?_) (fun h31 => absurd h31 hfo)
      refine pv_aload_0 (pc := 44) dX11_copy_44 ?_
      refine pv_iload_6 (pc := 45) dX11_copy_45 ?_
      refine pv_callV1 (pc := 47) dX11_copy_47 mgX11_refuse lv_X11_70_11 (by decide) (sx_16 hT) (by omega) (c_X11_refuse (k := (x_fo J p q).toNatClampNeg) hT hR rfl (x_fo_ne hW p q i j n h31).2) rfl rfl (by decide) ?_
      refine pv_iret (pc := 50) dX11_copy_50 rfl rfl ?_
      obtain ⟨e, hv⟩ := x_fo_ne hW p q i j n h31
      exact qX.ref hX (pv_in_lt hv).2.2.1 e
    | true =>
      refine pv_aload_0 (pc := 0) dX11_copy_0 ?_
      refine pv_iload_1 (pc := 1) dX11_copy_1 ?_
      refine pv_callV1 (pc := 2) dX11_copy_2 mgX11_noRow lv_X11_78_11 (by decide) (sx_16 hT) (by omega) (c_X11_noRow hW hX (by omega)) rfl rfl (by decide) ?_
      refine pv_aload_0 (pc := 5) dX11_copy_5 ?_
      refine pv_iload_2 (pc := 6) dX11_copy_6 ?_
      refine pv_callV1 (pc := 7) dX11_copy_7 mgX11_noRow lv_X11_78_11 (by decide) (sx_16 hT) (by omega) (c_X11_noRow hW hX (by omega)) rfl rfl (Nat.le_of_ble_eq_true rfl) ?_
      refine pv_callS1 (pc := 10) dX11_copy_10 mgX11_firstOf ls_X11_89 (by omega) (c_X11_firstOf (by omega)) rfl rfl (by decide) ?_
      refine pv_istore_6 (pc := 13) dX11_copy_13 (by decide) rfl ?_
      refine pv_aload_0 (pc := 15) dX11_copy_15 ?_
      refine pv_iload_1 (pc := 16) dX11_copy_16 ?_
      refine pv_callV1 (pc := 17) dX11_copy_17 mgX11_shelfAt lv_X11_66_11 (by decide) (sx_16 hT) (by omega) (c_X11_shelfAt0 hT hR hsp) rfl rfl (by decide) ?_
      refine pv_astoreN_7 (pc := 20) dX11_copy_20 (by decide) rfl ?_
      refine pv_aload_0 (pc := 22) dX11_copy_22 ?_
      refine pv_iload_2 (pc := 23) dX11_copy_23 ?_
      refine pv_callV1 (pc := 24) dX11_copy_24 mgX11_shelfAt lv_X11_66_11 (by decide) (sx_16 hT) (by omega) (c_X11_shelfAt1 hT hR (s_sh_in hsq)) rfl rfl (by decide) ?_
      refine pv_astore_8 (pc := 27) dX11_copy_27 (by decide) rfl ?_
      refine pv_iload_6 (pc := 29) dX11_copy_29 ?_
      refine pv_if_ne (pc := 31) (tgt := 44) dX11_copy_31 (by decide) (fun h31 => ?_) (fun h31 => absurd h31 hfo)
      refine pv_aload_0 (pc := 44) dX11_copy_44 ?_
      refine pv_iload_6 (pc := 45) dX11_copy_45 ?_
      refine pv_callV1 (pc := 47) dX11_copy_47 mgX11_refuse lv_X11_70_11 (by decide) (sx_16 hT) (by omega) (c_X11_refuse (k := (x_fo J p q).toNatClampNeg) hT hR rfl (x_fo_ne hW p q i j n h31).2) rfl rfl (by decide) ?_
      refine pv_iret (pc := 50) dX11_copy_50 rfl rfl ?_
      obtain ⟨e, hv⟩ := x_fo_ne hW p q i j n h31
      exact qX.ref hX (pv_in_lt hv).2.2.1 e
  | true =>
    cases hsq : s_sh q with
    | false =>
      have hfo : ¬ x_fo J p q = 0 := fun z => by
        have g := x_fo_eq hW z
        first
          | (rw [w_wants_n0 hsp] at g; exact absurd g.1 (by decide))
          | (rw [w_wants_n0 hsq] at g; exact absurd g.2 (by decide))
      refine pv_aload_0 (pc := 0) dX11_copy_0 ?_
      refine pv_iload_1 (pc := 1) dX11_copy_1 ?_
      refine pv_callV1 (pc := 2) dX11_copy_2 mgX11_noRow lv_X11_78_11 (by decide) (sx_16 hT) (by omega) (c_X11_noRow hW hX (by omega)) rfl rfl (by decide) ?_
      refine pv_aload_0 (pc := 5) dX11_copy_5 ?_
      refine pv_iload_2 (pc := 6) dX11_copy_6 ?_
      refine pv_callV1 (pc := 7) dX11_copy_7 mgX11_noRow lv_X11_78_11 (by decide) (sx_16 hT) (by omega) (c_X11_noRow hW hX (by omega)) rfl rfl (Nat.le_of_ble_eq_true rfl) ?_
      refine pv_callS1 (pc := 10) dX11_copy_10 mgX11_firstOf ls_X11_89 (by omega) (c_X11_firstOf (by omega)) rfl rfl (by decide) ?_
      refine pv_istore_6 (pc := 13) dX11_copy_13 (by decide) rfl ?_
      refine pv_aload_0 (pc := 15) dX11_copy_15 ?_
      refine pv_iload_1 (pc := 16) dX11_copy_16 ?_
      refine pv_callV1 (pc := 17) dX11_copy_17 mgX11_shelfAt lv_X11_66_11 (by decide) (sx_16 hT) (by omega) (c_X11_shelfAt1 hT hR (s_sh_in hsp)) rfl rfl (by decide) ?_
      refine pv_astore_7 (pc := 20) dX11_copy_20 (by decide) rfl ?_
      refine pv_aload_0 (pc := 22) dX11_copy_22 ?_
      refine pv_iload_2 (pc := 23) dX11_copy_23 ?_
      refine pv_callV1 (pc := 24) dX11_copy_24 mgX11_shelfAt lv_X11_66_11 (by decide) (sx_16 hT) (by omega) (c_X11_shelfAt0 hT hR hsq) rfl rfl (by decide) ?_
      refine pv_astoreN_8 (pc := 27) dX11_copy_27 (by decide) rfl ?_
      refine pv_iload_6 (pc := 29) dX11_copy_29 ?_
      refine pv_if_ne (pc := 31) (tgt := 44) dX11_copy_31 (by decide) (fun h31 => ?_) (fun h31 => absurd h31 hfo)
      refine pv_aload_0 (pc := 44) dX11_copy_44 ?_
      refine pv_iload_6 (pc := 45) dX11_copy_45 ?_
      refine pv_callV1 (pc := 47) dX11_copy_47 mgX11_refuse lv_X11_70_11 (by decide) (sx_16 hT) (by omega) (c_X11_refuse (k := (x_fo J p q).toNatClampNeg) hT hR rfl (x_fo_ne hW p q i j n h31).2) rfl rfl (by decide) ?_
      refine pv_iret (pc := 50) dX11_copy_50 rfl rfl ?_
      obtain ⟨e, hv⟩ := x_fo_ne hW p q i j n h31
      exact qX.ref hX (pv_in_lt hv).2.2.1 e
    | true =>
      have hp8 : p.toNatClampNeg < 8 := (pv_in_lt (s_sh_in hsp)).2.2.1
      have hq8 : q.toNatClampNeg < 8 := (pv_in_lt (s_sh_in hsq)).2.2.1
      refine pv_aload_0 (pc := 0) dX11_copy_0 ?_
      refine pv_iload_1 (pc := 1) dX11_copy_1 ?_
      refine pv_callV1 (pc := 2) dX11_copy_2 mgX11_noRow lv_X11_78_11 (by decide) (sx_16 hT) (by omega) (c_X11_noRow hW hX (by omega)) rfl rfl (by decide) ?_
      refine pv_aload_0 (pc := 5) dX11_copy_5 ?_
      refine pv_iload_2 (pc := 6) dX11_copy_6 ?_
      refine pv_callV1 (pc := 7) dX11_copy_7 mgX11_noRow lv_X11_78_11 (by decide) (sx_16 hT) (by omega) (c_X11_noRow hW hX (by omega)) rfl rfl (Nat.le_of_ble_eq_true rfl) ?_
      refine pv_callS1 (pc := 10) dX11_copy_10 mgX11_firstOf ls_X11_89 (by omega) (c_X11_firstOf (by omega)) rfl rfl (by decide) ?_
      refine pv_istore_6 (pc := 13) dX11_copy_13 (by decide) rfl ?_
      refine pv_aload_0 (pc := 15) dX11_copy_15 ?_
      refine pv_iload_1 (pc := 16) dX11_copy_16 ?_
      refine pv_callV1 (pc := 17) dX11_copy_17 mgX11_shelfAt lv_X11_66_11 (by decide) (sx_16 hT) (by omega) (c_X11_shelfAt1 hT hR (s_sh_in hsp)) rfl rfl (by decide) ?_
      refine pv_astore_7 (pc := 20) dX11_copy_20 (by decide) rfl ?_
      refine pv_aload_0 (pc := 22) dX11_copy_22 ?_
      refine pv_iload_2 (pc := 23) dX11_copy_23 ?_
      refine pv_callV1 (pc := 24) dX11_copy_24 mgX11_shelfAt lv_X11_66_11 (by decide) (sx_16 hT) (by omega) (c_X11_shelfAt1 hT hR (s_sh_in hsq)) rfl rfl (by decide) ?_
      refine pv_astore_8 (pc := 27) dX11_copy_27 (by decide) rfl ?_
      refine pv_iload_6 (pc := 29) dX11_copy_29 ?_
      refine pv_if_ne (pc := 31) (tgt := 44) dX11_copy_31 (by decide) (fun h31 => ?_) (fun h31 => ?_)
      · refine pv_aload_0 (pc := 44) dX11_copy_44 ?_
        refine pv_iload_6 (pc := 45) dX11_copy_45 ?_
        refine pv_callV1 (pc := 47) dX11_copy_47 mgX11_refuse lv_X11_70_11 (by decide) (sx_16 hT) (by omega) (c_X11_refuse (k := (x_fo J p q).toNatClampNeg) hT hR rfl (x_fo_ne hW p q i j n h31).2) rfl rfl (by decide) ?_
        refine pv_iret (pc := 50) dX11_copy_50 rfl rfl ?_
        obtain ⟨e, hv⟩ := x_fo_ne hW p q i j n h31
        exact qX.ref hX (pv_in_lt hv).2.2.1 e
      · refine pv_aload_7 (pc := 34) dX11_copy_34 ?_
        refine pv_ifnull (pc := 36) dX11_copy_36 ?_
        refine pv_aload_8 (pc := 39) dX11_copy_39 ?_
        refine pv_ifnonnull (pc := 41) (tgt := 51) dX11_copy_41 (by decide) ?_
        obtain ⟨ep, eq⟩ := x_fo_eq hW (by first | exact h31 | exact Classical.not_not.mp h31)
        obtain ⟨kp1, kp2, kp3, kp4, kp5, kp6, kp7⟩ : J 6 p.toNatClampNeg = 1 ∧ I (45 + 2 * p.toNatClampNeg) 1 = J 7 p.toNatClampNeg ∧ I (45 + 2 * p.toNatClampNeg) 2 = J 8 p.toNatClampNeg ∧ I (45 + 2 * p.toNatClampNeg) 3 = -1 ∧ ¬ J 7 p.toNatClampNeg = -1 ∧ (0 ≤ (J 8 p.toNatClampNeg).toInt ∧ (J 8 p.toNatClampNeg).toInt ≤ 160) ∧ ∀ j, j < 160 → L (46 + 2 * p.toNatClampNeg) j = K (1 + p.toNatClampNeg) j := by
          rcases x_kind hW hX hp8 with ⟨k1, _⟩ | k | ⟨k1, _⟩
          · exact absurd ((w_wants_k hsp).1 k1) (by rw [ep]; decide)
          · exact k
          · exact absurd ((w_wants_k hsp).2.2 k1) (by rw [ep]; decide)
        obtain ⟨kq1, kq2, kq3, kq4, kq5, kq6, kq7⟩ : J 6 q.toNatClampNeg = 1 ∧ I (45 + 2 * q.toNatClampNeg) 1 = J 7 q.toNatClampNeg ∧ I (45 + 2 * q.toNatClampNeg) 2 = J 8 q.toNatClampNeg ∧ I (45 + 2 * q.toNatClampNeg) 3 = -1 ∧ ¬ J 7 q.toNatClampNeg = -1 ∧ (0 ≤ (J 8 q.toNatClampNeg).toInt ∧ (J 8 q.toNatClampNeg).toInt ≤ 160) ∧ ∀ j, j < 160 → L (46 + 2 * q.toNatClampNeg) j = K (1 + q.toNatClampNeg) j := by
          rcases x_kind hW hX hq8 with ⟨k1, _⟩ | k | ⟨k1, _⟩
          · exact absurd ((w_wants_k hsq).1 k1) (by rw [eq]; decide)
          · exact k
          · exact absurd ((w_wants_k hsq).2.2 k1) (by rw [eq]; decide)
        have hs1 : ¬ (w_sh J p = 2 ∨ w_sh J q = 2 ∨ (w_sh J p = 1 ∧ w_sh J q = 1 ∧ ¬ J 7 p.toNatClampNeg = J 7 q.toNatClampNeg)) ↔ J 7 p.toNatClampNeg = J 7 q.toNatClampNeg := by
          unfold w_sh
          rw [kp1, kq1]
          constructor
          · intro r
            exact Classical.byContradiction fun z => r (Or.inr (Or.inr ⟨rfl, rfl, z⟩))
          · intro r z
            rcases z with z | z | ⟨_, _, z⟩
            · exact absurd z (by decide)
            · exact absurd z (by decide)
            · exact z r
        have hs3 : ¬ (w_sh J p = 0 ∨ w_sh J q = 0) := by unfold w_sh; rw [kp1, kq1]; decide
        refine pv_aload_7 (pc := 51) dX11_copy_51 ?_
        refine pv_getI (pc := 53) dX11_copy_53 fg_X11_93_8 rfl (by omega) (sx_sh hT hp8) ?_
        refine pv_aload_8 (pc := 56) dX11_copy_56 ?_
        refine pv_getI (pc := 58) dX11_copy_58 fg_X11_93_8 rfl (by omega) (sx_sh hT hq8) ?_
        refine pv_icmp_eq (pc := 61) (tgt := 70) dX11_copy_61 (by decide) (fun h61 => ?_) (fun h61 => ?_)
        · have e7 : J 7 p.toNatClampNeg = J 7 q.toNatClampNeg := (by have f1 := h61; rw [kp2, kq2] at f1; first | exact f1 | exact Classical.not_not.mp f1)
          refine pv_iload_5 (pc := 70) dX11_copy_70 ?_
          refine pv_if_ge (pc := 72) (tgt := 81) dX11_copy_72 (by decide) (fun h72 => ?_) (fun h72 => ?_)
          · refine pv_aload_7 (pc := 81) dX11_copy_81 ?_
            refine pv_iload_3 (pc := 83) dX11_copy_83 ?_
            refine pv_iload_5 (pc := 84) dX11_copy_84 ?_
            refine pv_callV1 (pc := 86) dX11_copy_86 mgX8_hasPart lv_X11_96_8 (by omega) (sx_sh hT hp8) (by omega) (c_X8_hasPart hT hR hp8) rfl rfl (by decide) ?_
            refine pv_if_eq (pc := 89) (tgt := 104) dX11_copy_89 (by decide) (fun h89 => ?_) (fun h89 => ?_)
            · refine pv_aload_0 (pc := 104) dX11_copy_104 ?_
              refine pv_iconst (pc := 105) (v := 5) dX11_copy_105 (by decide) ?_
              refine pv_callV1 (pc := 106) dX11_copy_106 mgX11_refuse lv_X11_70_11 (by decide) (sx_16 hT) (by omega) (c_X11_refuse (k := 5) hT hR (by decide) (by unfold vp_in; decide)) rfl rfl (by decide) ?_
              refine pv_iret (pc := 109) dX11_copy_109 rfl rfl ?_
              have hn0 : ¬ n < 0 := h72
              have hsub : ∀ z : Int32, 0 ≤ z.toInt ∧ z.toInt ≤ 160 → (z - n).toInt = z.toInt - n.toInt := fun z hz => by
                have h3 := Int32.toInt_lt n
                rw [i_lt, Int32.toInt_zero] at hn0
                exact Jvm.Kit.i32_sub (by omega) (by omega)
              refine qX.ref hX k_lt5b ?_
              unfold S_copy
              rw [if_pos ⟨hsp, hsq⟩, if_neg (hs1.mpr e7), if_neg hs3, if_neg hn0, if_neg]
              rintro ⟨g1, g2, g3, g4⟩
              rw [i_lt, hsub _ kp6] at g3
              rw [i_lt, hsub _ kq6] at g4
              have hn1 : 0 ≤ n.toInt := by rw [i_lt, Int32.toInt_zero] at hn0; omega
              rw [i_le, Int32.toInt_zero] at g1 g2
              first
                | (have f1 := (pv_b_0 _).mp h89; unfold x_hp at f1; rw [kp3, decide_eq_true (p := 0 ≤ i) (by rw [i_le, Int32.toInt_zero]; omega), decide_eq_true (p := 0 ≤ n) (by rw [i_le, Int32.toInt_zero]; omega), decide_eq_true (p := i.toInt + n.toInt ≤ (J 8 p.toNatClampNeg).toInt) (by omega)] at f1; exact absurd f1 (by decide))
                | (have f1 := (pv_b_0 _).mp h101; unfold x_hp at f1; rw [kq3, decide_eq_true (p := 0 ≤ j) (by rw [i_le, Int32.toInt_zero]; omega), decide_eq_true (p := 0 ≤ n) (by rw [i_le, Int32.toInt_zero]; omega), decide_eq_true (p := j.toInt + n.toInt ≤ (J 8 q.toNatClampNeg).toInt) (by omega)] at f1; exact absurd f1 (by decide))
            · refine pv_aload_8 (pc := 92) dX11_copy_92 ?_
              refine pv_iload_4 (pc := 94) dX11_copy_94 ?_
              refine pv_iload_5 (pc := 96) dX11_copy_96 ?_
              refine pv_callV1 (pc := 98) dX11_copy_98 mgX8_hasPart lv_X11_96_8 (by omega) (sx_sh hT hq8) (by omega) (c_X8_hasPart hT hR hq8) rfl rfl (by decide) ?_
              refine pv_if_ne (pc := 101) (tgt := 110) dX11_copy_101 (by decide) (fun h101 => ?_) (fun h101 => ?_)
              · have hn0 : ¬ n < 0 := h72
                have hjp : x_hp (I (45 + 2 * p.toNatClampNeg) 2) i n = true := (pv_b_n0 _).mp h89
                have hjq : x_hp (I (45 + 2 * q.toNatClampNeg) 2) j n = true := (pv_b_n0 _).mp h101
                have zp6 : (I (45 + 2 * p.toNatClampNeg) 2).toInt ≤ 160 := (by rw [kp3]; exact kp6.2)
                have zq6 : (I (45 + 2 * q.toNatClampNeg) 2).toInt ≤ 160 := (by rw [kq3]; exact kq6.2)
                refine pv_aload_7 (pc := 110) dX11_copy_110 ?_
                refine pv_getR (pc := 112) dX11_copy_112 fg_X11_100_8 rfl (by omega) (sx_sh hT hp8) (rx_ce hR hp8) ?_
                refine pv_iload_3 (pc := 115) dX11_copy_115 ?_
                refine pv_aload_8 (pc := 116) dX11_copy_116 ?_
                refine pv_getR (pc := 118) dX11_copy_118 fg_X11_100_8 rfl (by omega) (sx_sh hT hq8) (rx_ce hR hq8) ?_
                refine pv_iload_4 (pc := 121) dX11_copy_121 ?_
                refine pv_iload_5 (pc := 123) dX11_copy_123 ?_
                have hz := x_cpz hjp hjq hn0
                refine pv_copyl (pc := 125) dX11_copy_125 cpl_X11_104 cp_1 cp_2 cp_3 (by omega) (by omega) (sx_ce hT hp8) (sx_ce hT hq8) hz.1 hz.2.1 hn0 (by have := hz.2.2.1; omega) (by have := hz.2.2.2; omega) (by omega) (by decide) ?_
                refine pv_iconst (pc := 128) (v := 1) dX11_copy_128 (by decide) ?_
                refine pv_iret (pc := 129) dX11_copy_129 rfl rfl ?_
                have hsub : ∀ z : Int32, 0 ≤ z.toInt ∧ z.toInt ≤ 160 → (z - n).toInt = z.toInt - n.toInt := fun z hz => by
                  have h3 := Int32.toInt_lt n
                  rw [i_lt, Int32.toInt_zero] at hn0
                  exact Jvm.Kit.i32_sub (by omega) (by omega)
                have e : S_copy J K p q i j n = (.int 1, J, pv_ur K (1 + q.toNatClampNeg) (s_cp K p.toNatClampNeg q.toNatClampNeg i.toNatClampNeg j.toNatClampNeg n.toNatClampNeg)) := by
                  unfold S_copy
                  have a1 := i_lit i
                  have a2 := i_lit j
                  have a3 := i_lit n
                  obtain ⟨z1, z2, z3, z4⟩ := hz
                  rw [if_pos ⟨hsp, hsq⟩, if_neg (hs1.mpr e7), if_neg hs3, if_neg hn0, if_pos]
                  rw [i_lt, Int32.toInt_zero] at z1 z2 hn0
                  refine ⟨by rw [i_le, Int32.toInt_zero]; omega, by rw [i_le, Int32.toInt_zero]; omega, ?_, ?_⟩
                  · rw [i_lt, hsub _ kp6]; rw [kp3] at z3; omega
                  · rw [i_lt, hsub _ kq6]; rw [kq3] at z4; omega
                rw [e]
                have hL : ∀ a x, a ≠ 46 + 2 * q.toNatClampNeg → pv_ur L (46 + 2 * q.toNatClampNeg) (va_cpy (L (46 + 2 * p.toNatClampNeg)) (L (46 + 2 * q.toNatClampNeg)) i.toNatClampNeg j.toNatClampNeg n.toNatClampNeg) a x = L a x := fun a x h => by rw [pv_ur_app, if_neg h]
                refine ⟨rfl, hX.shelf hq8 (fun _ _ _ => rfl) hL (fun _ _ _ => rfl) (fun a x h => by show pv_ur K (1 + q.toNatClampNeg) _ a x = K a x; rw [pv_ur_app, if_neg h]) ⟨fun r => ?_, fun _ => ⟨kq2, kq3, kq4, fun x hx => ?_⟩, fun r => ?_⟩, kM.s hq8 (fun _ _ _ => rfl) hL⟩
                · have r : J 6 q.toNatClampNeg = 0 := r
                  rw [kq1] at r; exact absurd r (by decide)
                · show pv_ur L (46 + 2 * q.toNatClampNeg) _ (46 + 2 * q.toNatClampNeg) x = pv_ur K (1 + q.toNatClampNeg) _ (1 + q.toNatClampNeg) x
                  rw [pv_ur_app, if_pos rfl, pv_ur_app, if_pos rfl]
                  have z3 := hz.2.2.1
                  rw [kp3] at z3
                  show (if j.toNatClampNeg ≤ x ∧ x < j.toNatClampNeg + n.toNatClampNeg then L (46 + 2 * p.toNatClampNeg) (i.toNatClampNeg + (x - j.toNatClampNeg)) else L (46 + 2 * q.toNatClampNeg) x) = if j.toNatClampNeg ≤ x ∧ x < j.toNatClampNeg + n.toNatClampNeg then K (1 + p.toNatClampNeg) (i.toNatClampNeg + (x - j.toNatClampNeg)) else K (1 + q.toNatClampNeg) x
                  split
                  · exact kp7 _ (by omega)
                  · exact kq7 _ hx
                · have r : J 6 q.toNatClampNeg = 2 := r
                  rw [kq1] at r; exact absurd r (by decide)
              · refine pv_aload_0 (pc := 104) dX11_copy_104 ?_
                refine pv_iconst (pc := 105) (v := 5) dX11_copy_105 (by decide) ?_
                refine pv_callV1 (pc := 106) dX11_copy_106 mgX11_refuse lv_X11_70_11 (by decide) (sx_16 hT) (by omega) (c_X11_refuse (k := 5) hT hR (by decide) (by unfold vp_in; decide)) rfl rfl (by decide) ?_
                refine pv_iret (pc := 109) dX11_copy_109 rfl rfl ?_
                have hn0 : ¬ n < 0 := h72
                have hsub : ∀ z : Int32, 0 ≤ z.toInt ∧ z.toInt ≤ 160 → (z - n).toInt = z.toInt - n.toInt := fun z hz => by
                  have h3 := Int32.toInt_lt n
                  rw [i_lt, Int32.toInt_zero] at hn0
                  exact Jvm.Kit.i32_sub (by omega) (by omega)
                refine qX.ref hX k_lt5b ?_
                unfold S_copy
                rw [if_pos ⟨hsp, hsq⟩, if_neg (hs1.mpr e7), if_neg hs3, if_neg hn0, if_neg]
                rintro ⟨g1, g2, g3, g4⟩
                rw [i_lt, hsub _ kp6] at g3
                rw [i_lt, hsub _ kq6] at g4
                have hn1 : 0 ≤ n.toInt := by rw [i_lt, Int32.toInt_zero] at hn0; omega
                rw [i_le, Int32.toInt_zero] at g1 g2
                first
                  | (have f1 := (pv_b_0 _).mp h89; unfold x_hp at f1; rw [kp3, decide_eq_true (p := 0 ≤ i) (by rw [i_le, Int32.toInt_zero]; omega), decide_eq_true (p := 0 ≤ n) (by rw [i_le, Int32.toInt_zero]; omega), decide_eq_true (p := i.toInt + n.toInt ≤ (J 8 p.toNatClampNeg).toInt) (by omega)] at f1; exact absurd f1 (by decide))
                  | (have f1 := (pv_b_0 _).mp h101; unfold x_hp at f1; rw [kq3, decide_eq_true (p := 0 ≤ j) (by rw [i_le, Int32.toInt_zero]; omega), decide_eq_true (p := 0 ≤ n) (by rw [i_le, Int32.toInt_zero]; omega), decide_eq_true (p := j.toInt + n.toInt ≤ (J 8 q.toNatClampNeg).toInt) (by omega)] at f1; exact absurd f1 (by decide))
          · refine pv_aload_0 (pc := 75) dX11_copy_75 ?_
            refine pv_iconst (pc := 76) (v := 4) dX11_copy_76 (by decide) ?_
            refine pv_callV1 (pc := 77) dX11_copy_77 mgX11_refuse lv_X11_70_11 (by decide) (sx_16 hT) (by omega) (c_X11_refuse (k := 4) hT hR (by decide) (by unfold vp_in; decide)) rfl rfl (by decide) ?_
            refine pv_iret (pc := 80) dX11_copy_80 rfl rfl ?_
            refine qX.ref hX (by decide : 4 < 8) ?_; unfold S_copy; rw [if_pos ⟨hsp, hsq⟩, if_neg (hs1.mpr e7), if_neg hs3, if_pos h72]
        · refine pv_aload_0 (pc := 64) dX11_copy_64 ?_
          refine pv_iconst (pc := 65) (v := 2) dX11_copy_65 (by decide) ?_
          refine pv_callV1 (pc := 66) dX11_copy_66 mgX11_refuse lv_X11_70_11 (by decide) (sx_16 hT) (by omega) (c_X11_refuse (k := 2) hT hR (by decide) (by unfold vp_in; decide)) rfl rfl (by decide) ?_
          refine pv_iret (pc := 69) dX11_copy_69 rfl rfl ?_
          refine qX.ref hX (by decide : 2 < 8) ?_
          unfold S_copy
          rw [if_pos ⟨hsp, hsq⟩, if_pos (Classical.not_not.mp (fun z => h61 (by rw [kp2, kq2]; exact hs1.mp z)))]

