/-! the class: show copy -/

set_option maxRecDepth 100000 in
set_option maxHeartbeats 4000000 in
theorem c_X11_show {G : pv_G} {d : Nat} {J : pv_I} {K : pv_L} {s f : Int32} {t : pv_T} {I : pv_I} {L : pv_L} {Rf : pv_R} (hW : WF J K) (hX : RX J K t I L Rf)  (hd : 60 ≤ d) : pv_Mt G mX11_show d 0 0 [.ref 16, .int s, .int f] t I L Rf (qX (S_show J K s f) I L) := by
  refine pv_mt mgX11_show.2.2.2.2.2 [.ref 16, .int s, .int f, .retAddr 0] rfl (Nat.le_of_ble_eq_true rfl) ?_
  have hT := hX.1
  have hR := hX.2.1
  obtain ⟨-, -, ⟨xp, xq, xn, xst, xsp, xsd, xc⟩, xf, xs, xb, xi⟩ := id hX
  by_cases hs : s_sh s = true
  · have hin := s_sh_in hs
    have hs8 : s.toNatClampNeg < 8 := (pv_in_lt hin).2.2.1
    have hkd := x_kind hW hX hs8
    by_cases hf1 : f = -1
    · skip
      refine pv_aload_0 (pc := 0) dX11_show_0 ?_
      refine pv_iload_1 (pc := 1) dX11_show_1 ?_
      refine pv_callV1 (pc := 2) dX11_show_2 mgX11_shelfAt lv_X11_66_11 (by decide) (sx_16 hT) (by omega) (c_X11_shelfAt1 hT hR hin) rfl rfl (by decide) ?_
      refine pv_astore_3 (pc := 5) dX11_show_5 (by decide) rfl ?_
      refine pv_aload_3 (pc := 6) dX11_show_6 ?_
      refine pv_ifnull (pc := 7) dX11_show_7 ?_
      refine pv_iload_2 (pc := 10) dX11_show_10 ?_
      refine pv_iconst (pc := 11) (v := (-1)) dX11_show_11 (by decide) ?_
      refine pv_icmp_eq (pc := 12) (tgt := 33) dX11_show_12 (by decide) (fun h12 => ?_) (fun h12 => absurd h12 (not_not_intro hf1))
      refine pv_aload_3 (pc := 33) dX11_show_33 ?_
      refine pv_iload_2 (pc := 34) dX11_show_34 ?_
      refine pv_callV0 (pc := 35) dX11_show_35 mgX8_takeFigure lv_X11_118_8 (by omega) (sx_sh hT hs8) (by omega) (c_X8_takeFigure hT hR hs8) rfl rfl (by decide) ?_
      refine pv_iload_2 (pc := 38) dX11_show_38 ?_
      refine pv_iconst (pc := 39) (v := (-1)) dX11_show_39 (by decide) ?_
      refine pv_icmp_ne (pc := 40) (tgt := 47) dX11_show_40 (by decide) (fun h40 => absurd h40 (not_not_intro hf1)) (fun h40 => ?_)
      refine pv_iconst (pc := 43) (v := 0) dX11_show_43 (by decide) ?_
      refine pv_goto (pc := 44) (tgt := 48) dX11_show_44 (by decide) ?_
      refine pv_iret (pc := 48) dX11_show_48 rfl rfl ?_
      have e : S_show J K s f = (.int 0, pv_u (pv_u J 6 s.toNatClampNeg 0) 9 s.toNatClampNeg f, K) := by unfold S_show; rw [if_pos ⟨hs, Or.inl hf1⟩, if_pos hf1, if_pos hf1]
      rw [e]
      have hI : ∀ a j, a ≠ 45 + 2 * s.toNatClampNeg → x_tr I s.toNatClampNeg (-1) 0 f a j = I a j := fun a j h => x_tr_o h
      refine ⟨rfl, hX.shelf hs8 hI (fun _ _ _ => rfl) (fun a j h => ?_) (fun _ _ _ => rfl) ⟨fun q => ?_, fun q => ?_, fun q => ?_⟩, kM.s hs8 hI (fun _ _ _ => rfl)⟩
      · show pv_u (pv_u J 6 s.toNatClampNeg 0) 9 s.toNatClampNeg f a j = J a j
        rw [pv_u_o _ (by omega), pv_u_o _ (by omega)]
      · exact ⟨x_tr_1.1, x_tr_1.2.1, by rw [x_tr_1.2.2, hf1]⟩
      · exact absurd (show (0 : Int32) = 1 by simpa [pv_u_app] using q) (by decide)
      · exact absurd (show (0 : Int32) = 2 by simpa [pv_u_app] using q) (by decide)
    · by_cases hF : w_isF J f
      · obtain ⟨x, fx1, fx2, fx3, fx4, fx5, fx6, fx7, fx8, hfb⟩ := xf _ (hF.nat hW).2
        have hF8 := (hF.nat hW).1
        have hFc : f < I 21 3 := by rw [xn]; exact hF.2
        refine pv_aload_0 (pc := 0) dX11_show_0 ?_
        refine pv_iload_1 (pc := 1) dX11_show_1 ?_
        refine pv_callV1 (pc := 2) dX11_show_2 mgX11_shelfAt lv_X11_66_11 (by decide) (sx_16 hT) (by omega) (c_X11_shelfAt1 hT hR hin) rfl rfl (by decide) ?_
        refine pv_astore_3 (pc := 5) dX11_show_5 (by decide) rfl ?_
        refine pv_aload_3 (pc := 6) dX11_show_6 ?_
        refine pv_ifnull (pc := 7) dX11_show_7 ?_
        refine pv_iload_2 (pc := 10) dX11_show_10 ?_
        refine pv_iconst (pc := 11) (v := (-1)) dX11_show_11 (by decide) ?_
        refine pv_icmp_eq (pc := 12) (tgt := 33) dX11_show_12 (by decide) (fun h12 => absurd h12 hf1) (fun h12 => ?_)
        refine pv_aload_0 (pc := 15) dX11_show_15 ?_
        refine pv_aload_0 (pc := 16) dX11_show_16 ?_
        refine pv_getR (pc := 17) dX11_show_17 fg_X11_31_11 rfl (by decide) (sx_16 hT) (rx_16_4 hR) ?_
        refine pv_iload_2 (pc := 20) dX11_show_20 ?_
        refine pv_callV1 (pc := 21) dX11_show_21 mgX11_figureAt lv_X11_114_11 (by decide) (sx_16 hT) (by omega) (c_X11_figureAt1 hT hR (by decide) (sx_21 hT) hF8 hFc fx1) rfl rfl (by decide) ?_
        refine pv_ifnonnull (pc := 24) (tgt := 33) dX11_show_24 (by decide) ?_
        refine pv_aload_3 (pc := 33) dX11_show_33 ?_
        refine pv_iload_2 (pc := 34) dX11_show_34 ?_
        refine pv_callV0 (pc := 35) dX11_show_35 mgX8_takeFigure lv_X11_118_8 (by omega) (sx_sh hT hs8) (by omega) (c_X8_takeFigure hT hR hs8) rfl rfl (by decide) ?_
        refine pv_iload_2 (pc := 38) dX11_show_38 ?_
        refine pv_iconst (pc := 39) (v := (-1)) dX11_show_39 (by decide) ?_
        refine pv_icmp_ne (pc := 40) (tgt := 47) dX11_show_40 (by decide) (fun h40 => ?_) (fun h40 => absurd h40 hf1)
        refine pv_iconst (pc := 47) (v := 1) dX11_show_47 (by decide) ?_
        refine pv_iret (pc := 48) dX11_show_48 rfl rfl ?_
        have e : S_show J K s f = (.int 1, pv_u (pv_u J 6 s.toNatClampNeg 2) 9 s.toNatClampNeg f, K) := by unfold S_show; rw [if_pos ⟨hs, Or.inr hF⟩, if_neg hf1, if_neg hf1]
        rw [e]
        have hI : ∀ a j, a ≠ 45 + 2 * s.toNatClampNeg → x_tr I s.toNatClampNeg (-1) 0 f a j = I a j := fun a j h => x_tr_o h
        refine ⟨rfl, hX.shelf hs8 hI (fun _ _ _ => rfl) (fun a j h => ?_) (fun _ _ _ => rfl) ⟨fun q => ?_, fun q => ?_, fun q => ?_⟩, kM.s hs8 hI (fun _ _ _ => rfl)⟩
        · show pv_u (pv_u J 6 s.toNatClampNeg 2) 9 s.toNatClampNeg f a j = J a j
          rw [pv_u_o _ (by omega), pv_u_o _ (by omega)]
        · exact absurd (show (2 : Int32) = 0 by simpa [pv_u_app] using q) (by decide)
        · exact absurd (show (2 : Int32) = 1 by simpa [pv_u_app] using q) (by decide)
        · exact ⟨x_tr_1.1, x_tr_1.2.1, by rw [x_tr_1.2.2]; simp [pv_u_app]⟩
      · have hFn : ¬ (0 ≤ f ∧ f < I 21 3 ∧ f < 8) := fun q => hF ⟨q.1, by rw [← xn]; exact q.2.1⟩
        refine pv_aload_0 (pc := 0) dX11_show_0 ?_
        refine pv_iload_1 (pc := 1) dX11_show_1 ?_
        refine pv_callV1 (pc := 2) dX11_show_2 mgX11_shelfAt lv_X11_66_11 (by decide) (sx_16 hT) (by omega) (c_X11_shelfAt1 hT hR hin) rfl rfl (by decide) ?_
        refine pv_astore_3 (pc := 5) dX11_show_5 (by decide) rfl ?_
        refine pv_aload_3 (pc := 6) dX11_show_6 ?_
        refine pv_ifnull (pc := 7) dX11_show_7 ?_
        refine pv_iload_2 (pc := 10) dX11_show_10 ?_
        refine pv_iconst (pc := 11) (v := (-1)) dX11_show_11 (by decide) ?_
        refine pv_icmp_eq (pc := 12) (tgt := 33) dX11_show_12 (by decide) (fun h12 => absurd h12 hf1) (fun h12 => ?_)
        refine pv_aload_0 (pc := 15) dX11_show_15 ?_
        refine pv_aload_0 (pc := 16) dX11_show_16 ?_
        refine pv_getR (pc := 17) dX11_show_17 fg_X11_31_11 rfl (by decide) (sx_16 hT) (rx_16_4 hR) ?_
        refine pv_iload_2 (pc := 20) dX11_show_20 ?_
        refine pv_callV1 (pc := 21) dX11_show_21 mgX11_figureAt lv_X11_114_11 (by decide) (sx_16 hT) (by omega) (c_X11_figureAt0 hT hR (by decide) (sx_21 hT) hFn) rfl rfl (by decide) ?_
        refine pv_ifnonnullN (pc := 24) dX11_show_24 ?_
        refine pv_aload_0 (pc := 27) dX11_show_27 ?_
        refine pv_iconst (pc := 28) (v := 1) dX11_show_28 (by decide) ?_
        refine pv_callV1 (pc := 29) dX11_show_29 mgX11_refuse lv_X11_70_11 (by decide) (sx_16 hT) (by omega) (c_X11_refuse (k := 1) hT hR (by decide) (by unfold vp_in; decide)) rfl rfl (by decide) ?_
        refine pv_iret (pc := 32) dX11_show_32 rfl rfl ?_
        refine qX.ref hX (by decide : 1 < 8) ?_; unfold S_show; rw [if_neg (fun q => q.2.elim hf1 hF)]
  · have hs0 : s_sh s = false := by simpa using hs
    refine pv_aload_0 (pc := 0) dX11_show_0 ?_
    refine pv_iload_1 (pc := 1) dX11_show_1 ?_
    refine pv_callV1 (pc := 2) dX11_show_2 mgX11_shelfAt lv_X11_66_11 (by decide) (sx_16 hT) (by omega) (c_X11_shelfAt0 hT hR hs0) rfl rfl (by decide) ?_
    refine pv_astoreN_3 (pc := 5) dX11_show_5 (by decide) rfl ?_
    refine pv_aloadN_3 (pc := 6) dX11_show_6 ?_
    refine pv_ifnullN (pc := 7) (tgt := 27) dX11_show_7 (by decide) ?_
    refine pv_aload_0 (pc := 27) dX11_show_27 ?_
    refine pv_iconst (pc := 28) (v := 1) dX11_show_28 (by decide) ?_
    refine pv_callV1 (pc := 29) dX11_show_29 mgX11_refuse lv_X11_70_11 (by decide) (sx_16 hT) (by omega) (c_X11_refuse (k := 1) hT hR (by decide) (by unfold vp_in; decide)) rfl rfl (by decide) ?_
    refine pv_iret (pc := 32) dX11_show_32 rfl rfl ?_
    refine qX.ref hX (by decide : 1 < 8) ?_; unfold S_show; rw [if_neg (fun q => by rw [hs0] at q; exact absurd q.1 (by decide))]

def x_fo (J : pv_I) (p q : Int32) : Int32 := if -(w_wants J p) = 0 ∨ -(w_wants J q) = 0 then -(w_wants J p) + -(w_wants J q) else if -(w_wants J q) < -(w_wants J p) then -(w_wants J q) else -(w_wants J p)
theorem w_cls {J : pv_I} {K : pv_L} (hW : WF J K) (s : Int32) : (s_sh s = false ∧ w_wants J s = -1) ∨ (s_sh s = true ∧ w_sh J s = 0 ∧ w_wants J s = -3) ∨ (s_sh s = true ∧ w_sh J s = 1 ∧ w_wants J s = 0) ∨ (s_sh s = true ∧ w_sh J s = 2 ∧ w_wants J s = -2) := by
  cases hs : s_sh s with
  | false => exact Or.inl ⟨rfl, w_wants_n0 hs⟩
  | true =>
    rcases (hW.2.2.2.1 _ (pv_in_lt (s_sh_in hs)).2.2.1).1 with w | w | w
    · exact Or.inr (Or.inl ⟨rfl, w, (w_wants_k hs).1 w⟩)
    · exact Or.inr (Or.inr (Or.inl ⟨rfl, w, (w_wants_k hs).2.1 w⟩))
    · exact Or.inr (Or.inr (Or.inr ⟨rfl, w, (w_wants_k hs).2.2 w⟩))
theorem x_fo_ne {J : pv_I} {K : pv_L} (hW : WF J K) (p q i j n : Int32) (h : ¬ x_fo J p q = 0) : S_copy J K p q i j n = S_ref J K (x_fo J p q).toNatClampNeg (.int (-(x_fo J p q))) ∧ vp_in (x_fo J p q) 8 := by
  unfold x_fo at h ⊢
  unfold S_copy
  rcases w_cls hW p with ⟨a1, a3⟩ | ⟨a1, a2, a3⟩ | ⟨a1, a2, a3⟩ | ⟨a1, a2, a3⟩ <;> rcases w_cls hW q with ⟨b1, b3⟩ | ⟨b1, b2, b3⟩ | ⟨b1, b2, b3⟩ | ⟨b1, b2, b3⟩ <;> simp only [a1, b1, a3, b3] at h ⊢ <;> (try simp only [a2]) <;> (try simp only [b2]) <;> first | exact absurd (by decide) h | exact ⟨rfl, by unfold vp_in; decide⟩
theorem x_fo_eq {J : pv_I} {K : pv_L} (hW : WF J K) {p q : Int32} (h : x_fo J p q = 0) : w_wants J p = 0 ∧ w_wants J q = 0 := by
  unfold x_fo at h
  rcases w_wants_c J p with g | g | g | g <;> rcases w_wants_c J q with f | f | f | f <;> rw [g, f] at h <;> first | exact ⟨g, f⟩ | exact absurd h (by decide)
