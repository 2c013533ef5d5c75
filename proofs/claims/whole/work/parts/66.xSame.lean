/-! the class: same image restore -/
def x_fb (J : pv_I) (p q n : Int32) : Int32 := if -(w_bars J p n) = 0 ∨ -(w_bars J q n) = 0 then -(w_bars J p n) + -(w_bars J q n) else if -(w_bars J q n) < -(w_bars J p n) then -(w_bars J q n) else -(w_bars J p n)
theorem w_bcl {J : pv_I} {K : pv_L} (hW : WF J K) (s n : Int32) : (s_sh s = false ∧ w_bars J s n = -1) ∨ (s_sh s = true ∧ w_sh J s = 0 ∧ w_bars J s n = -3) ∨ (s_sh s = true ∧ w_sh J s = 2 ∧ w_bars J s n = -2) ∨ (s_sh s = true ∧ w_sh J s = 1 ∧ n < 0 ∧ w_bars J s n = -4) ∨ (s_sh s = true ∧ w_sh J s = 1 ∧ ¬ n < 0 ∧ J 8 s.toNatClampNeg < n ∧ w_bars J s n = -5) ∨ (s_sh s = true ∧ w_sh J s = 1 ∧ ¬ n < 0 ∧ ¬ J 8 s.toNatClampNeg < n ∧ w_bars J s n = 0) := by
  unfold w_bars
  rcases w_cls hW s with ⟨a1, a3⟩ | ⟨a1, a2, a3⟩ | ⟨a1, a2, a3⟩ | ⟨a1, a2, a3⟩
  · rw [a3]; exact Or.inl ⟨a1, rfl⟩
  · rw [a3]; exact Or.inr (Or.inl ⟨a1, a2, rfl⟩)
  · rw [a3, if_pos rfl]
    by_cases h : n < 0
    · rw [if_pos h]; exact Or.inr (Or.inr (Or.inr (Or.inl ⟨a1, a2, h, rfl⟩)))
    · rw [if_neg h]
      by_cases g : J 8 s.toNatClampNeg < n
      · rw [if_pos g]; exact Or.inr (Or.inr (Or.inr (Or.inr (Or.inl ⟨a1, a2, h, g, rfl⟩))))
      · rw [if_neg g]; exact Or.inr (Or.inr (Or.inr (Or.inr (Or.inr ⟨a1, a2, h, g, rfl⟩))))
  · rw [a3]; exact Or.inr (Or.inr (Or.inl ⟨a1, a2, rfl⟩))
theorem x_fb_ne {J : pv_I} {K : pv_L} (hW : WF J K) (p q n : Int32) (o : Bool) (h : ¬ x_fb J p q n = 0) : S_same J K p q n o = S_ref J K (x_fb J p q n).toNatClampNeg (.int (-(x_fb J p q n))) ∧ vp_in (x_fb J p q n) 8 := by
  unfold x_fb at h ⊢
  unfold S_same
  rcases w_bcl hW p n with ⟨a1, a3⟩ | ⟨a1, a2, a3⟩ | ⟨a1, a2, a3⟩ | ⟨a1, a2, a4, a3⟩ | ⟨a1, a2, a4, a5, a3⟩ | ⟨a1, a2, a4, a5, a3⟩ <;> rcases w_bcl hW q n with ⟨b1, b3⟩ | ⟨b1, b2, b3⟩ | ⟨b1, b2, b3⟩ | ⟨b1, b2, b4, b3⟩ | ⟨b1, b2, b4, b5, b3⟩ | ⟨b1, b2, b4, b5, b3⟩ <;> (first | exact absurd (by assumption) a4 | exact absurd (by assumption) b4 | skip) <;> simp only [a1, b1, a3, b3] at h ⊢ <;> (try simp only [a2]) <;> (try simp only [b2]) <;> (try simp only [a4]) <;> (try simp only [b4]) <;> (try simp only [a5]) <;> (try simp only [b5]) <;> first | exact absurd (by decide) h | exact ⟨rfl, by unfold vp_in; decide⟩ | (refine ⟨?_, by unfold vp_in; decide⟩; simp; done) | (refine ⟨?_, by unfold vp_in; decide⟩; simp; rfl)
theorem x_fb_eq {J : pv_I} {p q n : Int32} (h : x_fb J p q n = 0) : w_bars J p n = 0 ∧ w_bars J q n = 0 := by
  unfold x_fb at h
  rcases w_bars_c J p n with g | g | g | g | g | g <;> rcases w_bars_c J q n with f | f | f | f | f | f <;> rw [g, f] at h <;> first | exact ⟨g, f⟩ | exact absurd h (by decide)
def w_sv (J : pv_I) (K : pv_L) (a b n : Int32) (o : Bool) : Bool := decide ((w_D J K a n).2.2.1 = (w_D J K b n).2.2.1) && decide ((w_D J K a n).2.2.2.1 = (w_D J K b n).2.2.2.1) && (!o || (decide ((w_D J K a n).2.2.2.2.1 0 = (w_D J K b n).2.2.2.2.1 0) && decide ((w_D J K a n).2.2.2.2.1 1 = (w_D J K b n).2.2.2.2.1 1) && decide ((w_D J K a n).2.2.2.2.1 2 = (w_D J K b n).2.2.2.2.1 2) && decide ((w_D J K a n).2.2.2.2.1 3 = (w_D J K b n).2.2.2.2.1 3)))
theorem S_same_e {J : pv_I} {K : pv_L} (hW : WF J K) {p q n : Int32} {o : Bool} (h : w_bars J p n = 0) (g : w_bars J q n = 0) : S_same J K p q n o = if (w_D J K p n).1 = true ∧ (w_D J K q n).1 = true then (.int (pv_b (w_sv J K p q n o)), J, K) else S_ref J K 6 (.int (-6)) := by
  unfold S_same
  rcases w_bcl hW p n with ⟨a1, a3⟩ | ⟨a1, a2, a3⟩ | ⟨a1, a2, a3⟩ | ⟨a1, a2, a4, a3⟩ | ⟨a1, a2, a4, a5, a3⟩ | ⟨a1, a2, a4, a5, a3⟩ <;> (try (rw [h] at a3; exact absurd a3 (by decide)))
  rcases w_bcl hW q n with ⟨b1, b3⟩ | ⟨b1, b2, b3⟩ | ⟨b1, b2, b3⟩ | ⟨b1, b2, b4, b3⟩ | ⟨b1, b2, b4, b5, b3⟩ | ⟨b1, b2, b4, b5, b3⟩ <;> (try (rw [g] at b3; exact absurd b3 (by decide)))
  rw [if_pos ⟨a1, b1⟩, if_neg (fun z => z.elim (fun y => by rw [a2] at y; exact absurd y (by decide)) (fun y => by rw [b2] at y; exact absurd y (by decide))), if_neg (fun z => z.elim (fun y => by rw [a2] at y; exact absurd y (by decide)) (fun y => by rw [b2] at y; exact absurd y (by decide))), if_neg a4, if_neg (fun z => z.elim a5 b5)]
  rfl

set_option maxRecDepth 100000 in
set_option maxHeartbeats 4000000 in
theorem c_X4_standsLike {G : pv_G} {d : Nat} {t : pv_T} {I : pv_I} {L : pv_L} {Rf : pv_R} (hT : sh_ok t) (hR : rf_ok Rf) : pv_Mt G mX4_standsLike d 0 0 [.ref 25, .ref 27] t I L Rf (pv_is (some (.int (pv_b (decide (I 26 0 = I 28 0) && decide (I 26 1 = I 28 1) && decide (I 26 2 = I 28 2) && decide (I 26 3 = I 28 3))))) t I L Rf) := by
  refine pv_mt mgX4_standsLike.2.2.2.2.2 [.ref 25, .ref 27, .retAddr 0, .retAddr 0] rfl (Nat.le_of_ble_eq_true rfl) ?_
  refine pv_iconst (pc := 0) (v := 1) dX4_standsLike_0 (by decide) ?_
  refine pv_istore_2 (pc := 1) dX4_standsLike_1 (by decide) rfl ?_
  refine pv_iconst (pc := 2) (v := 0) dX4_standsLike_2 (by decide) ?_
  refine pv_istore_3 (pc := 3) dX4_standsLike_3 (by decide) rfl ?_
  refine pv_iload_3 (pc := 4) dX4_standsLike_4 ?_
  refine pv_aload_0 (pc := 5) dX4_standsLike_5 ?_
  refine pv_getR (pc := 6) dX4_standsLike_6 fg_X4_9_4 rfl (by decide) (sx_25 hT) (rx_25_0 hR) ?_
  refine pv_alen (pc := 9) dX4_standsLike_9 (sx_26 hT) rfl ?_
  refine pv_topv2 (y := 4) (by rfl) ?_
  refine pv_icmp_ge (pc := 10) (tgt := 53) dX4_standsLike_10 (by decide) (fun q => absurd q (by decide)) (fun _ => ?_)
  refine pv_iload_3 (pc := 13) dX4_standsLike_13 ?_
  refine pv_aload_1 (pc := 14) dX4_standsLike_14 ?_
  refine pv_getR (pc := 15) dX4_standsLike_15 fg_X4_9_4 rfl (by decide) (sx_27 hT) (rx_27_0 hR) ?_
  refine pv_alen (pc := 18) dX4_standsLike_18 (sx_28 hT) rfl ?_
  refine pv_topv2 (y := 4) (by rfl) ?_
  refine pv_icmp_ge (pc := 19) (tgt := 53) dX4_standsLike_19 (by decide) (fun q => absurd q (by decide)) (fun _ => ?_)
  refine pv_iload_2 (pc := 22) dX4_standsLike_22 ?_
  refine pv_if_eq (pc := 23) (tgt := 45) dX4_standsLike_23 (by decide) (fun q => absurd q (by decide)) (fun _ => ?_)
  refine pv_aload_0 (pc := 26) dX4_standsLike_26 ?_
  refine pv_getR (pc := 27) dX4_standsLike_27 fg_X4_9_4 rfl (by decide) (sx_25 hT) (rx_25_0 hR) ?_
  refine pv_iload_3 (pc := 30) dX4_standsLike_30 ?_
  refine pv_ialoadj (pc := 31) dX4_standsLike_31 (sx_26 hT) (j := 0) (by decide) (by unfold vp_in; decide) ?_
  refine pv_aload_1 (pc := 32) dX4_standsLike_32 ?_
  refine pv_getR (pc := 33) dX4_standsLike_33 fg_X4_9_4 rfl (by decide) (sx_27 hT) (rx_27_0 hR) ?_
  refine pv_iload_3 (pc := 36) dX4_standsLike_36 ?_
  refine pv_ialoadj (pc := 37) dX4_standsLike_37 (sx_28 hT) (j := 0) (by decide) (by unfold vp_in; decide) ?_
  refine pv_icmp_ne (pc := 38) (tgt := 45) dX4_standsLike_38 (by decide) (fun h38 => ?_) (fun h38 => ?_)
  · refine pv_iconst (pc := 45) (v := 0) dX4_standsLike_45 (by decide) ?_
    refine pv_istore_2 (pc := 46) dX4_standsLike_46 (by decide) rfl ?_
    refine pv_iinc_3 (pc := 47) (v := 1) dX4_standsLike_47 (by decide) (by decide) rfl ?_
    refine pv_goto (pc := 50) (tgt := 4) dX4_standsLike_50 (by decide) ?_
    refine pv_iload_3 (pc := 4) dX4_standsLike_4 ?_
    refine pv_aload_0 (pc := 5) dX4_standsLike_5 ?_
    refine pv_getR (pc := 6) dX4_standsLike_6 fg_X4_9_4 rfl (by decide) (sx_25 hT) (rx_25_0 hR) ?_
    refine pv_alen (pc := 9) dX4_standsLike_9 (sx_26 hT) rfl ?_
    refine pv_topv2 (y := 4) (by rfl) ?_
    refine pv_icmp_ge (pc := 10) (tgt := 53) dX4_standsLike_10 (by decide) (fun q => absurd q (by decide)) (fun _ => ?_)
    refine pv_iload_3 (pc := 13) dX4_standsLike_13 ?_
    refine pv_aload_1 (pc := 14) dX4_standsLike_14 ?_
    refine pv_getR (pc := 15) dX4_standsLike_15 fg_X4_9_4 rfl (by decide) (sx_27 hT) (rx_27_0 hR) ?_
    refine pv_alen (pc := 18) dX4_standsLike_18 (sx_28 hT) rfl ?_
    refine pv_topv2 (y := 4) (by rfl) ?_
    refine pv_icmp_ge (pc := 19) (tgt := 53) dX4_standsLike_19 (by decide) (fun q => absurd q (by decide)) (fun _ => ?_)
    refine pv_iload_2 (pc := 22) dX4_standsLike_22 ?_
    refine pv_if_eq (pc := 23) (tgt := 45) dX4_standsLike_23 (by decide) (fun _ => ?_) (fun q => absurd q (by decide))
    refine pv_iconst (pc := 45) (v := 0) dX4_standsLike_45 (by decide) ?_
    refine pv_istore_2 (pc := 46) dX4_standsLike_46 (by decide) rfl ?_
    refine pv_iinc_3 (pc := 47) (v := 2) dX4_standsLike_47 (by decide) (by decide) rfl ?_
    refine pv_goto (pc := 50) (tgt := 4) dX4_standsLike_50 (by decide) ?_
    refine pv_iload_3 (pc := 4) dX4_standsLike_4 ?_
    refine pv_aload_0 (pc := 5) dX4_standsLike_5 ?_
    refine pv_getR (pc := 6) dX4_standsLike_6 fg_X4_9_4 rfl (by decide) (sx_25 hT) (rx_25_0 hR) ?_
    refine pv_alen (pc := 9) dX4_standsLike_9 (sx_26 hT) rfl ?_
    refine pv_topv2 (y := 4) (by rfl) ?_
    refine pv_icmp_ge (pc := 10) (tgt := 53) dX4_standsLike_10 (by decide) (fun q => absurd q (by decide)) (fun _ => ?_)
    refine pv_iload_3 (pc := 13) dX4_standsLike_13 ?_
    refine pv_aload_1 (pc := 14) dX4_standsLike_14 ?_
    refine pv_getR (pc := 15) dX4_standsLike_15 fg_X4_9_4 rfl (by decide) (sx_27 hT) (rx_27_0 hR) ?_
    refine pv_alen (pc := 18) dX4_standsLike_18 (sx_28 hT) rfl ?_
    refine pv_topv2 (y := 4) (by rfl) ?_
    refine pv_icmp_ge (pc := 19) (tgt := 53) dX4_standsLike_19 (by decide) (fun q => absurd q (by decide)) (fun _ => ?_)
    refine pv_iload_2 (pc := 22) dX4_standsLike_22 ?_
    refine pv_if_eq (pc := 23) (tgt := 45) dX4_standsLike_23 (by decide) (fun _ => ?_) (fun q => absurd q (by decide))
    refine pv_iconst (pc := 45) (v := 0) dX4_standsLike_45 (by decide) ?_
    refine pv_istore_2 (pc := 46) dX4_standsLike_46 (by decide) rfl ?_
    refine pv_iinc_3 (pc := 47) (v := 3) dX4_standsLike_47 (by decide) (by decide) rfl ?_
    refine pv_goto (pc := 50) (tgt := 4) dX4_standsLike_50 (by decide) ?_
    refine pv_iload_3 (pc := 4) dX4_standsLike_4 ?_
    refine pv_aload_0 (pc := 5) dX4_standsLike_5 ?_
    refine pv_getR (pc := 6) dX4_standsLike_6 fg_X4_9_4 rfl (by decide) (sx_25 hT) (rx_25_0 hR) ?_
    refine pv_alen (pc := 9) dX4_standsLike_9 (sx_26 hT) rfl ?_
    refine pv_topv2 (y := 4) (by rfl) ?_
    refine pv_icmp_ge (pc := 10) (tgt := 53) dX4_standsLike_10 (by decide) (fun q => absurd q (by decide)) (fun _ => ?_)
    refine pv_iload_3 (pc := 13) dX4_standsLike_13 ?_
    refine pv_aload_1 (pc := 14) dX4_standsLike_14 ?_
    refine pv_getR (pc := 15) dX4_standsLike_15 fg_X4_9_4 rfl (by decide) (sx_27 hT) (rx_27_0 hR) ?_
    refine pv_alen (pc := 18) dX4_standsLike_18 (sx_28 hT) rfl ?_
    refine pv_topv2 (y := 4) (by rfl) ?_
    refine pv_icmp_ge (pc := 19) (tgt := 53) dX4_standsLike_19 (by decide) (fun q => absurd q (by decide)) (fun _ => ?_)
    refine pv_iload_2 (pc := 22) dX4_standsLike_22 ?_
    refine pv_if_eq (pc := 23) (tgt := 45) dX4_standsLike_23 (by decide) (fun _ => ?_) (fun q => absurd q (by decide))
    refine pv_iconst (pc := 45) (v := 0) dX4_standsLike_45 (by decide) ?_
    refine pv_istore_2 (pc := 46) dX4_standsLike_46 (by decide) rfl ?_
    refine pv_iinc_3 (pc := 47) (v := 4) dX4_standsLike_47 (by decide) (by decide) rfl ?_
    refine pv_goto (pc := 50) (tgt := 4) dX4_standsLike_50 (by decide) ?_
    refine pv_iload_3 (pc := 4) dX4_standsLike_4 ?_
    refine pv_aload_0 (pc := 5) dX4_standsLike_5 ?_
    refine pv_getR (pc := 6) dX4_standsLike_6 fg_X4_9_4 rfl (by decide) (sx_25 hT) (rx_25_0 hR) ?_
    refine pv_alen (pc := 9) dX4_standsLike_9 (sx_26 hT) rfl ?_
    refine pv_topv2 (y := 4) (by rfl) ?_
    refine pv_icmp_ge (pc := 10) (tgt := 53) dX4_standsLike_10 (by decide) (fun _ => ?_) (fun q => absurd q (by decide))
    refine pv_iload_2 (pc := 53) dX4_standsLike_53 ?_
    refine pv_iret (pc := 54) dX4_standsLike_54 rfl rfl ?_
    refine ⟨congrArg (fun z => some (Value.int z)) ?_, rfl, rfl, rfl, rfl⟩
    first
      | (have f0 : ¬ I 26 0 = I 28 0 := h38; rw [decide_eq_false f0]; simp [pv_b]; done)
      | (have f0 : I 26 0 = I 28 0 := (by first | exact h38 | exact Classical.not_not.mp h38); have f1 : ¬ I 26 1 = I 28 1 := h38_1; rw [decide_eq_true f0, decide_eq_false f1]; simp [pv_b]; done)
      | (have f0 : I 26 0 = I 28 0 := (by first | exact h38 | exact Classical.not_not.mp h38); have f1 : I 26 1 = I 28 1 := (by first | exact h38_1 | exact Classical.not_not.mp h38_1); have f2 : ¬ I 26 2 = I 28 2 := h38_2; rw [decide_eq_true f0, decide_eq_true f1, decide_eq_false f2]; simp [pv_b]; done)
      | (have f0 : I 26 0 = I 28 0 := (by first | exact h38 | exact Classical.not_not.mp h38); have f1 : I 26 1 = I 28 1 := (by first | exact h38_1 | exact Classical.not_not.mp h38_1); have f2 : I 26 2 = I 28 2 := (by first | exact h38_2 | exact Classical.not_not.mp h38_2); have f3 : ¬ I 26 3 = I 28 3 := h38_3; rw [decide_eq_true f0, decide_eq_true f1, decide_eq_true f2, decide_eq_false f3]; simp [pv_b]; done)
      | (have f0 : I 26 0 = I 28 0 := (by first | exact h38 | exact Classical.not_not.mp h38); have f1 : I 26 1 = I 28 1 := (by first | exact h38_1 | exact Classical.not_not.mp h38_1); have f2 : I 26 2 = I 28 2 := (by first | exact h38_2 | exact Classical.not_not.mp h38_2); have f3 : I 26 3 = I 28 3 := (by first | exact h38_3 | exact Classical.not_not.mp h38_3); rw [decide_eq_true f0, decide_eq_true f1, decide_eq_true f2, decide_eq_true f3]; rfl)
  · refine pv_iconst (pc := 41) (v := 1) dX4_standsLike_41 (by decide) ?_
    refine pv_goto (pc := 42) (tgt := 46) dX4_standsLike_42 (by decide) ?_
    refine pv_istore_2 (pc := 46) dX4_standsLike_46 (by decide) rfl ?_
    refine pv_iinc_3 (pc := 47) (v := 1) dX4_standsLike_47 (by decide) (by decide) rfl ?_
    refine pv_goto (pc := 50) (tgt := 4) dX4_standsLike_50 (by decide) ?_
    refine pv_iload_3 (pc := 4) dX4_standsLike_4 ?_
    refine pv_aload_0 (pc := 5) dX4_standsLike_5 ?_
    refine pv_getR (pc := 6) dX4_standsLike_6 fg_X4_9_4 rfl (by decide) (sx_25 hT) (rx_25_0 hR) ?_
    refine pv_alen (pc := 9) dX4_standsLike_9 (sx_26 hT) rfl ?_
    refine pv_topv2 (y := 4) (by rfl) ?_
    refine pv_icmp_ge (pc := 10) (tgt := 53) dX4_standsLike_10 (by decide) (fun q => absurd q (by decide)) (fun _ => ?_)
    refine pv_iload_3 (pc := 13) dX4_standsLike_13 ?_
    refine pv_aload_1 (pc := 14) dX4_standsLike_14 ?_
    refine pv_getR (pc := 15) dX4_standsLike_15 fg_X4_9_4 rfl (by decide) (sx_27 hT) (rx_27_0 hR) ?_
    refine pv_alen (pc := 18) dX4_standsLike_18 (sx_28 hT) rfl ?_
    refine pv_topv2 (y := 4) (by rfl) ?_
    refine pv_icmp_ge (pc := 19) (tgt := 53) dX4_standsLike_19 (by decide) (fun q => absurd q (by decide)) (fun _ => ?_)
    refine pv_iload_2 (pc := 22) dX4_standsLike_22 ?_
    refine pv_if_eq (pc := 23) (tgt := 45) dX4_standsLike_23 (by decide) (fun q => absurd q (by decide)) (fun _ => ?_)
    refine pv_aload_0 (pc := 26) dX4_standsLike_26 ?_
    refine pv_getR (pc := 27) dX4_standsLike_27 fg_X4_9_4 rfl (by decide) (sx_25 hT) (rx_25_0 hR) ?_
    refine pv_iload_3 (pc := 30) dX4_standsLike_30 ?_
    refine pv_ialoadj (pc := 31) dX4_standsLike_31 (sx_26 hT) (j := 1) (by decide) (by unfold vp_in; decide) ?_
    refine pv_aload_1 (pc := 32) dX4_standsLike_32 ?_
    refine pv_getR (pc := 33) dX4_standsLike_33 fg_X4_9_4 rfl (by decide) (sx_27 hT) (rx_27_0 hR) ?_
    refine pv_iload_3 (pc := 36) dX4_standsLike_36 ?_
    refine pv_ialoadj (pc := 37) dX4_standsLike_37 (sx_28 hT) (j := 1) (by decide) (by unfold vp_in; decide) ?_
    refine pv_icmp_ne (pc := 38) (tgt := 45) dX4_standsLike_38 (by decide) (fun h38_1 => ?_) (fun h38_1 => ?_)
    · refine pv_iconst (pc := 45) (v := 0) dX4_standsLike_45 (by decide) ?_
      refine pv_istore_2 (pc := 46) dX4_standsLike_46 (by decide) rfl ?_
      refine pv_iinc_3 (pc := 47) (v := 2) dX4_standsLike_47 (by decide) (by decide) rfl ?_
      refine pv_goto (pc := 50) (tgt := 4) dX4_standsLike_50 (by decide) ?_
      refine pv_iload_3 (pc := 4) dX4_standsLike_4 ?_
      refine pv_aload_0 (pc := 5) dX4_standsLike_5 ?_
      refine pv_getR (pc := 6) dX4_standsLike_6 fg_X4_9_4 rfl (by decide) (sx_25 hT) (rx_25_0 hR) ?_
      refine pv_alen (pc := 9) dX4_standsLike_9 (sx_26 hT) rfl ?_
      refine pv_topv2 (y := 4) (by rfl) ?_
      refine pv_icmp_ge (pc := 10) (tgt := 53) dX4_standsLike_10 (by decide) (fun q => absurd q (by decide)) (fun _ => ?_)
      refine pv_iload_3 (pc := 13) dX4_standsLike_13 ?_
      refine pv_aload_1 (pc := 14) dX4_standsLike_14 ?_
      refine pv_getR (pc := 15) dX4_standsLike_15 fg_X4_9_4 rfl (by decide) (sx_27 hT) (rx_27_0 hR) ?_
      refine pv_alen (pc := 18) dX4_standsLike_18 (sx_28 hT) rfl ?_
      refine pv_topv2 (y := 4) (by rfl) ?_
      refine pv_icmp_ge (pc := 19) (tgt := 53) dX4_standsLike_19 (by decide) (fun q => absurd q (by decide)) (fun _ => ?_)
      refine pv_iload_2 (pc := 22) dX4_standsLike_22 ?_
      refine pv_if_eq (pc := 23) (tgt := 45) dX4_standsLike_23 (by decide) (fun _ => ?_) (fun q => absurd q (by decide))
      refine pv_iconst (pc := 45) (v := 0) dX4_standsLike_45 (by decide) ?_
      refine pv_istore_2 (pc := 46) dX4_standsLike_46 (by decide) rfl ?_
      refine pv_iinc_3 (pc := 47) (v := 3) dX4_standsLike_47 (by decide) (by decide) rfl ?_
      refine pv_goto (pc := 50) (tgt := 4) dX4_standsLike_50 (by decide) ?_
      refine pv_iload_3 (pc := 4) dX4_standsLike_4 ?_
      refine pv_aload_0 (pc := 5) dX4_standsLike_5 ?_
      refine pv_getR (pc := 6) dX4_standsLike_6 fg_X4_9_4 rfl (by decide) (sx_25 hT) (rx_25_0 hR) ?_
      refine pv_alen (pc := 9) dX4_standsLike_9 (sx_26 hT) rfl ?_
      refine pv_topv2 (y := 4) (by rfl) ?_
      refine pv_icmp_ge (pc := 10) (tgt := 53) dX4_standsLike_10 (by decide) (fun q => absurd q (by decide)) (fun _ => ?_)
      refine pv_iload_3 (pc := 13) dX4_standsLike_13 ?_
      refine pv_aload_1 (pc := 14) dX4_standsLike_14 ?_
      refine pv_getR (pc := 15) dX4_standsLike_15 fg_X4_9_4 rfl (by decide) (sx_27 hT) (rx_27_0 hR) ?_
      refine pv_alen (pc := 18) dX4_standsLike_18 (sx_28 hT) rfl ?_
      refine pv_topv2 (y := 4) (by rfl) ?_
      refine pv_icmp_ge (pc := 19) (tgt := 53) dX4_standsLike_19 (by decide) (fun q => absurd q (by decide)) (fun _ => ?_)
      refine pv_iload_2 (pc := 22) dX4_standsLike_22 ?_
      refine pv_if_eq (pc := 23) (tgt := 45) dX4_standsLike_23 (by decide) (fun _ => ?_) (fun q => absurd q (by decide))
      refine pv_iconst (pc := 45) (v := 0) dX4_standsLike_45 (by decide) ?_
      refine pv_istore_2 (pc := 46) dX4_standsLike_46 (by decide) rfl ?_
      refine pv_iinc_3 (pc := 47) (v := 4) dX4_standsLike_47 (by decide) (by decide) rfl ?_
      refine pv_goto (pc := 50) (tgt := 4) dX4_standsLike_50 (by decide) ?_
      refine pv_iload_3 (pc := 4) dX4_standsLike_4 ?_
      refine pv_aload_0 (pc := 5) dX4_standsLike_5 ?_
      refine pv_getR (pc := 6) dX4_standsLike_6 fg_X4_9_4 rfl (by decide) (sx_25 hT) (rx_25_0 hR) ?_
      refine pv_alen (pc := 9) dX4_standsLike_9 (sx_26 hT) rfl ?_
      refine pv_topv2 (y := 4) (by rfl) ?_
      refine pv_icmp_ge (pc := 10) (tgt := 53) dX4_standsLike_10 (by decide) (fun _ => ?_) (fun q => absurd q (by decide))
      refine pv_iload_2 (pc := 53) dX4_standsLike_53 ?_
      refine pv_iret (pc := 54) dX4_standsLike_54 rfl rfl ?_
      refine ⟨congrArg (fun z => some (Value.int z)) ?_, rfl, rfl, rfl, rfl⟩
      first
        | (have f0 : ¬ I 26 0 = I 28 0 := h38; rw [decide_eq_false f0]; simp [pv_b]; done)
        | (have f0 : I 26 0 = I 28 0 := (by first | exact h38 | exact Classical.not_not.mp h38); have f1 : ¬ I 26 1 = I 28 1 := h38_1; rw [decide_eq_true f0, decide_eq_false f1]; simp [pv_b]; done)
        | (have f0 : I 26 0 = I 28 0 := (by first | exact h38 | exact Classical.not_not.mp h38); have f1 : I 26 1 = I 28 1 := (by first | exact h38_1 | exact Classical.not_not.mp h38_1); have f2 : ¬ I 26 2 = I 28 2 := h38_2; rw [decide_eq_true f0, decide_eq_true f1, decide_eq_false f2]; simp [pv_b]; done)
        | (have f0 : I 26 0 = I 28 0 := (by first | exact h38 | exact Classical.not_not.mp h38); have f1 : I 26 1 = I 28 1 := (by first | exact h38_1 | exact Classical.not_not.mp h38_1); have f2 : I 26 2 = I 28 2 := (by first | exact h38_2 | exact Classical.not_not.mp h38_2); have f3 : ¬ I 26 3 = I 28 3 := h38_3; rw [decide_eq_true f0, decide_eq_true f1, decide_eq_true f2, decide_eq_false f3]; simp [pv_b]; done)
        | (have f0 : I 26 0 = I 28 0 := (by first | exact h38 | exact Classical.not_not.mp h38); have f1 : I 26 1 = I 28 1 := (by first | exact h38_1 | exact Classical.not_not.mp h38_1); have f2 : I 26 2 = I 28 2 := (by first | exact h38_2 | exact Classical.not_not.mp h38_2); have f3 : I 26 3 = I 28 3 := (by first | exact h38_3 | exact Classical.not_not.mp h38_3); rw [decide_eq_true f0, decide_eq_true f1, decide_eq_true f2, decide_eq_true f3]; rfl)
    · refine pv_iconst (pc := 41) (v := 1) dX4_standsLike_41 (by decide) ?_
      refine pv_goto (pc := 42) (tgt := 46) dX4_standsLike_42 (by decide) ?_
      refine pv_istore_2 (pc := 46) dX4_standsLike_46 (by decide) rfl ?_
      refine pv_iinc_3 (pc := 47) (v := 2) dX4_standsLike_47 (by decide) (by decide) rfl ?_
      refine pv_goto (pc := 50) (tgt := 4) dX4_standsLike_50 (by decide) ?_
      refine pv_iload_3 (pc := 4) dX4_standsLike_4 ?_
      refine pv_aload_0 (pc := 5) dX4_standsLike_5 ?_
      refine pv_getR (pc := 6) dX4_standsLike_6 fg_X4_9_4 rfl (by decide) (sx_25 hT) (rx_25_0 hR) ?_
      refine pv_alen (pc := 9) dX4_standsLike_9 (sx_26 hT) rfl ?_
      refine pv_topv2 (y := 4) (by rfl) ?_
      refine pv_icmp_ge (pc := 10) (tgt := 53) dX4_standsLike_10 (by decide) (fun q => absurd q (by decide)) (fun _ => ?_)
      refine pv_iload_3 (pc := 13) dX4_standsLike_13 ?_
      refine pv_aload_1 (pc := 14) dX4_standsLike_14 ?_
      refine pv_getR (pc := 15) dX4_standsLike_15 fg_X4_9_4 rfl (by decide) (sx_27 hT) (rx_27_0 hR) ?_
      refine pv_alen (pc := 18) dX4_standsLike_18 (sx_28 hT) rfl ?_
      refine pv_topv2 (y := 4) (by rfl) ?_
      refine pv_icmp_ge (pc := 19) (tgt := 53) dX4_standsLike_19 (by decide) (fun q => absurd q (by decide)) (fun _ => ?_)
      refine pv_iload_2 (pc := 22) dX4_standsLike_22 ?_
      refine pv_if_eq (pc := 23) (tgt := 45) dX4_standsLike_23 (by decide) (fun q => absurd q (by decide)) (fun _ => ?_)
      refine pv_aload_0 (pc := 26) dX4_standsLike_26 ?_
      refine pv_getR (pc := 27) dX4_standsLike_27 fg_X4_9_4 rfl (by decide) (sx_25 hT) (rx_25_0 hR) ?_
      refine pv_iload_3 (pc := 30) dX4_standsLike_30 ?_
      refine pv_ialoadj (pc := 31) dX4_standsLike_31 (sx_26 hT) (j := 2) (by decide) (by unfold vp_in; decide) ?_
      refine pv_aload_1 (pc := 32) dX4_standsLike_32 ?_
      refine pv_getR (pc := 33) dX4_standsLike_33 fg_X4_9_4 rfl (by decide) (sx_27 hT) (rx_27_0 hR) ?_
      refine pv_iload_3 (pc := 36) dX4_standsLike_36 ?_
      refine pv_ialoadj (pc := 37) dX4_standsLike_37 (sx_28 hT) (j := 2) (by decide) (by unfold vp_in; decide) ?_
      refine pv_icmp_ne (pc := 38) (tgt := 45) dX4_standsLike_38 (by decide) (fun h38_2 => ?_) (fun h38_2 => ?_)
      · refine pv_iconst (pc := 45) (v := 0) dX4_standsLike_45 (by decide) ?_
        refine pv_istore_2 (pc := 46) dX4_standsLike_46 (by decide) rfl ?_
        refine pv_iinc_3 (pc := 47) (v := 3) dX4_standsLike_47 (by decide) (by decide) rfl ?_
        refine pv_goto (pc := 50) (tgt := 4) dX4_standsLike_50 (by decide) ?_
        refine pv_iload_3 (pc := 4) dX4_standsLike_4 ?_
        refine pv_aload_0 (pc := 5) dX4_standsLike_5 ?_
        refine pv_getR (pc := 6) dX4_standsLike_6 fg_X4_9_4 rfl (by decide) (sx_25 hT) (rx_25_0 hR) ?_
        refine pv_alen (pc := 9) dX4_standsLike_9 (sx_26 hT) rfl ?_
        refine pv_topv2 (y := 4) (by rfl) ?_
        refine pv_icmp_ge (pc := 10) (tgt := 53) dX4_standsLike_10 (by decide) (fun q => absurd q (by decide)) (fun _ => ?_)
        refine pv_iload_3 (pc := 13) dX4_standsLike_13 ?_
        refine pv_aload_1 (pc := 14) dX4_standsLike_14 ?_
        refine pv_getR (pc := 15) dX4_standsLike_15 fg_X4_9_4 rfl (by decide) (sx_27 hT) (rx_27_0 hR) ?_
        refine pv_alen (pc := 18) dX4_standsLike_18 (sx_28 hT) rfl ?_
        refine pv_topv2 (y := 4) (by rfl) ?_
        refine pv_icmp_ge (pc := 19) (tgt := 53) dX4_standsLike_19 (by decide) (fun q => absurd q (by decide)) (fun _ => ?_)
        refine pv_iload_2 (pc := 22) dX4_standsLike_22 ?_
        refine pv_if_eq (pc := 23) (tgt := 45) dX4_standsLike_23 (by decide) (fun _ => ?_) (fun q => absurd q (by decide))
        refine pv_iconst (pc := 45) (v := 0) dX4_standsLike_45 (by decide) ?_
        refine pv_istore_2 (pc := 46) dX4_standsLike_46 (by decide) rfl ?_
        refine pv_iinc_3 (pc := 47) (v := 4) dX4_standsLike_47 (by decide) (by decide) rfl ?_
        refine pv_goto (pc := 50) (tgt := 4) dX4_standsLike_50 (by decide) ?_
        refine pv_iload_3 (pc := 4) dX4_standsLike_4 ?_
        refine pv_aload_0 (pc := 5) dX4_standsLike_5 ?_
        refine pv_getR (pc := 6) dX4_standsLike_6 fg_X4_9_4 rfl (by decide) (sx_25 hT) (rx_25_0 hR) ?_
        refine pv_alen (pc := 9) dX4_standsLike_9 (sx_26 hT) rfl ?_
        refine pv_topv2 (y := 4) (by rfl) ?_
        refine pv_icmp_ge (pc := 10) (tgt := 53) dX4_standsLike_10 (by decide) (fun _ => ?_) (fun q => absurd q (by decide))
        refine pv_iload_2 (pc := 53) dX4_standsLike_53 ?_
        refine pv_iret (pc := 54) dX4_standsLike_54 rfl rfl ?_
        refine ⟨congrArg (fun z => some (Value.int z)) ?_, rfl, rfl, rfl, rfl⟩
        first
          | (have f0 : ¬ I 26 0 = I 28 0 := h38; rw [decide_eq_false f0]; simp [pv_b]; done)
          | (have f0 : I 26 0 = I 28 0 := (by first | exact h38 | exact Classical.not_not.mp h38); have f1 : ¬ I 26 1 = I 28 1 := h38_1; rw [decide_eq_true f0, decide_eq_false f1]; simp [pv_b]; done)
          | (have f0 : I 26 0 = I 28 0 := (by first | exact h38 | exact Classical.not_not.mp h38); have f1 : I 26 1 = I 28 1 := (by first | exact h38_1 | exact Classical.not_not.mp h38_1); have f2 : ¬ I 26 2 = I 28 2 := h38_2; rw [decide_eq_true f0, decide_eq_true f1, decide_eq_false f2]; simp [pv_b]; done)
          | (have f0 : I 26 0 = I 28 0 := (by first | exact h38 | exact Classical.not_not.mp h38); have f1 : I 26 1 = I 28 1 := (by first | exact h38_1 | exact Classical.not_not.mp h38_1); have f2 : I 26 2 = I 28 2 := (by first | exact h38_2 | exact Classical.not_not.mp h38_2); have f3 : ¬ I 26 3 = I 28 3 := h38_3; rw [decide_eq_true f0, decide_eq_true f1, decide_eq_true f2, decide_eq_false f3]; simp [pv_b]; done)
          | (have f0 : I 26 0 = I 28 0 := (by first | exact h38 | exact Classical.not_not.mp h38); have f1 : I 26 1 = I 28 1 := (by first | exact h38_1 | exact Classical.not_not.mp h38_1); have f2 : I 26 2 = I 28 2 := (by first | exact h38_2 | exact Classical.not_not.mp h38_2); have f3 : I 26 3 = I 28 3 := (by first | exact h38_3 | exact Classical.not_not.mp h38_3); rw [decide_eq_true f0, decide_eq_true f1, decide_eq_true f2, decide_eq_true f3]; rfl)
      · refine pv_iconst (pc := 41) (v := 1) dX4_standsLike_41 (by decide) ?_
        refine pv_goto (pc := 42) (tgt := 46) dX4_standsLike_42 (by decide) ?_
        refine pv_istore_2 (pc := 46) dX4_standsLike_46 (by decide) rfl ?_
        refine pv_iinc_3 (pc := 47) (v := 3) dX4_standsLike_47 (by decide) (by decide) rfl ?_
        refine pv_goto (pc := 50) (tgt := 4) dX4_standsLike_50 (by decide) ?_
        refine pv_iload_3 (pc := 4) dX4_standsLike_4 ?_
        refine pv_aload_0 (pc := 5) dX4_standsLike_5 ?_
        refine pv_getR (pc := 6) dX4_standsLike_6 fg_X4_9_4 rfl (by decide) (sx_25 hT) (rx_25_0 hR) ?_
        refine pv_alen (pc := 9) dX4_standsLike_9 (sx_26 hT) rfl ?_
        refine pv_topv2 (y := 4) (by rfl) ?_
        refine pv_icmp_ge (pc := 10) (tgt := 53) dX4_standsLike_10 (by decide) (fun q => absurd q (by decide)) (fun _ => ?_)
        refine pv_iload_3 (pc := 13) dX4_standsLike_13 ?_
        refine pv_aload_1 (pc := 14) dX4_standsLike_14 ?_
        refine pv_getR (pc := 15) dX4_standsLike_15 fg_X4_9_4 rfl (by decide) (sx_27 hT) (rx_27_0 hR) ?_
        refine pv_alen (pc := 18) dX4_standsLike_18 (sx_28 hT) rfl ?_
        refine pv_topv2 (y := 4) (by rfl) ?_
        refine pv_icmp_ge (pc := 19) (tgt := 53) dX4_standsLike_19 (by decide) (fun q => absurd q (by decide)) (fun _ => ?_)
        refine pv_iload_2 (pc := 22) dX4_standsLike_22 ?_
        refine pv_if_eq (pc := 23) (tgt := 45) dX4_standsLike_23 (by decide) (fun q => absurd q (by decide)) (fun _ => ?_)
        refine pv_aload_0 (pc := 26) dX4_standsLike_26 ?_
        refine pv_getR (pc := 27) dX4_standsLike_27 fg_X4_9_4 rfl (by decide) (sx_25 hT) (rx_25_0 hR) ?_
        refine pv_iload_3 (pc := 30) dX4_standsLike_30 ?_
        refine pv_ialoadj (pc := 31) dX4_standsLike_31 (sx_26 hT) (j := 3) (by decide) (by unfold vp_in; decide) ?_
        refine pv_aload_1 (pc := 32) dX4_standsLike_32 ?_
        refine pv_getR (pc := 33) dX4_standsLike_33 fg_X4_9_4 rfl (by decide) (sx_27 hT) (rx_27_0 hR) ?_
        refine pv_iload_3 (pc := 36) dX4_standsLike_36 ?_
        refine pv_ialoadj (pc := 37) dX4_standsLike_37 (sx_28 hT) (j := 3) (by decide) (by unfold vp_in; decide) ?_
        refine pv_icmp_ne (pc := 38) (tgt := 45) dX4_standsLike_38 (by decide) (fun h38_3 => ?_) (fun h38_3 => ?_)
        · refine pv_iconst (pc := 45) (v := 0) dX4_standsLike_45 (by decide) ?_
          refine pv_istore_2 (pc := 46) dX4_standsLike_46 (by decide) rfl ?_
          refine pv_iinc_3 (pc := 47) (v := 4) dX4_standsLike_47 (by decide) (by decide) rfl ?_
          refine pv_goto (pc := 50) (tgt := 4) dX4_standsLike_50 (by decide) ?_
          refine pv_iload_3 (pc := 4) dX4_standsLike_4 ?_
          refine pv_aload_0 (pc := 5) dX4_standsLike_5 ?_
          refine pv_getR (pc := 6) dX4_standsLike_6 fg_X4_9_4 rfl (by decide) (sx_25 hT) (rx_25_0 hR) ?_
          refine pv_alen (pc := 9) dX4_standsLike_9 (sx_26 hT) rfl ?_
          refine pv_topv2 (y := 4) (by rfl) ?_
          refine pv_icmp_ge (pc := 10) (tgt := 53) dX4_standsLike_10 (by decide) (fun _ => ?_) (fun q => absurd q (by decide))
          refine pv_iload_2 (pc := 53) dX4_standsLike_53 ?_
          refine pv_iret (pc := 54) dX4_standsLike_54 rfl rfl ?_
          refine ⟨congrArg (fun z => some (Value.int z)) ?_, rfl, rfl, rfl, rfl⟩
          first
            | (have f0 : ¬ I 26 0 = I 28 0 := h38; rw [decide_eq_false f0]; simp [pv_b]; done)
            | (have f0 : I 26 0 = I 28 0 := (by first | exact h38 | exact Classical.not_not.mp h38); have f1 : ¬ I 26 1 = I 28 1 := h38_1; rw [decide_eq_true f0, decide_eq_false f1]; simp [pv_b]; done)
            | (have f0 : I 26 0 = I 28 0 := (by first | exact h38 | exact Classical.not_not.mp h38); have f1 : I 26 1 = I 28 1 := (by first | exact h38_1 | exact Classical.not_not.mp h38_1); have f2 : ¬ I 26 2 = I 28 2 := h38_2; rw [decide_eq_true f0, decide_eq_true f1, decide_eq_false f2]; simp [pv_b]; done)
            | (have f0 : I 26 0 = I 28 0 := (by first | exact h38 | exact Classical.not_not.mp h38); have f1 : I 26 1 = I 28 1 := (by first | exact h38_1 | exact Classical.not_not.mp h38_1); have f2 : I 26 2 = I 28 2 := (by first | exact h38_2 | exact Classical.not_not.mp h38_2); have f3 : ¬ I 26 3 = I 28 3 := h38_3; rw [decide_eq_true f0, decide_eq_true f1, decide_eq_true f2, decide_eq_false f3]; simp [pv_b]; done)
            | (have f0 : I 26 0 = I 28 0 := (by first | exact h38 | exact Classical.not_not.mp h38); have f1 : I 26 1 = I 28 1 := (by first | exact h38_1 | exact Classical.not_not.mp h38_1); have f2 : I 26 2 = I 28 2 := (by first | exact h38_2 | exact Classical.not_not.mp h38_2); have f3 : I 26 3 = I 28 3 := (by first | exact h38_3 | exact Classical.not_not.mp h38_3); rw [decide_eq_true f0, decide_eq_true f1, decide_eq_true f2, decide_eq_true f3]; rfl)
        · refine pv_iconst (pc := 41) (v := 1) dX4_standsLike_41 (by decide) ?_
          refine pv_goto (pc := 42) (tgt := 46) dX4_standsLike_42 (by decide) ?_
          refine pv_istore_2 (pc := 46) dX4_standsLike_46 (by decide) rfl ?_
          refine pv_iinc_3 (pc := 47) (v := 4) dX4_standsLike_47 (by decide) (by decide) rfl ?_
          refine pv_goto (pc := 50) (tgt := 4) dX4_standsLike_50 (by decide) ?_
          refine pv_iload_3 (pc := 4) dX4_standsLike_4 ?_
          refine pv_aload_0 (pc := 5) dX4_standsLike_5 ?_
          refine pv_getR (pc := 6) dX4_standsLike_6 fg_X4_9_4 rfl (by decide) (sx_25 hT) (rx_25_0 hR) ?_
          refine pv_alen (pc := 9) dX4_standsLike_9 (sx_26 hT) rfl ?_
          refine pv_topv2 (y := 4) (by rfl) ?_
          refine pv_icmp_ge (pc := 10) (tgt := 53) dX4_standsLike_10 (by decide) (fun _ => ?_) (fun q => absurd q (by decide))
          refine pv_iload_2 (pc := 53) dX4_standsLike_53 ?_
          refine pv_iret (pc := 54) dX4_standsLike_54 rfl rfl ?_
          refine ⟨congrArg (fun z => some (Value.int z)) ?_, rfl, rfl, rfl, rfl⟩
          first
            | (have f0 : ¬ I 26 0 = I 28 0 := h38; rw [decide_eq_false f0]; simp [pv_b]; done)
            | (have f0 : I 26 0 = I 28 0 := (by first | exact h38 | exact Classical.not_not.mp h38); have f1 : ¬ I 26 1 = I 28 1 := h38_1; rw [decide_eq_true f0, decide_eq_false f1]; simp [pv_b]; done)
            | (have f0 : I 26 0 = I 28 0 := (by first | exact h38 | exact Classical.not_not.mp h38); have f1 : I 26 1 = I 28 1 := (by first | exact h38_1 | exact Classical.not_not.mp h38_1); have f2 : ¬ I 26 2 = I 28 2 := h38_2; rw [decide_eq_true f0, decide_eq_true f1, decide_eq_false f2]; simp [pv_b]; done)
            | (have f0 : I 26 0 = I 28 0 := (by first | exact h38 | exact Classical.not_not.mp h38); have f1 : I 26 1 = I 28 1 := (by first | exact h38_1 | exact Classical.not_not.mp h38_1); have f2 : I 26 2 = I 28 2 := (by first | exact h38_2 | exact Classical.not_not.mp h38_2); have f3 : ¬ I 26 3 = I 28 3 := h38_3; rw [decide_eq_true f0, decide_eq_true f1, decide_eq_true f2, decide_eq_false f3]; simp [pv_b]; done)
            | (have f0 : I 26 0 = I 28 0 := (by first | exact h38 | exact Classical.not_not.mp h38); have f1 : I 26 1 = I 28 1 := (by first | exact h38_1 | exact Classical.not_not.mp h38_1); have f2 : I 26 2 = I 28 2 := (by first | exact h38_2 | exact Classical.not_not.mp h38_2); have f3 : I 26 3 = I 28 3 := (by first | exact h38_3 | exact Classical.not_not.mp h38_3); rw [decide_eq_true f0, decide_eq_true f1, decide_eq_true f2, decide_eq_true f3]; rfl)

set_option maxRecDepth 100000 in
set_option maxHeartbeats 4000000 in
theorem c_X11_same {G : pv_G} {d : Nat} {J : pv_I} {K : pv_L} {a b n : Int32} {o : Bool} {t : pv_T} {I : pv_I} {L : pv_L} {Rf : pv_R} (hW : WF J K) (hX : RX J K t I L Rf)  (hd : 60 ≤ d) : pv_Mt G mX11_same d 0 0 [.ref 16, .int a, .int b, .int n, .int (pv_b o)] t I L Rf (qX (S_same J K a b n o) I L) := by
  refine pv_mt mgX11_same.2.2.2.2.2 [.ref 16, .int a, .int b, .int n, .int (pv_b o), .retAddr 0, .retAddr 0] rfl (Nat.le_of_ble_eq_true rfl) ?_
  have hT := hX.1
  have hR := hX.2.1
  obtain ⟨-, -, ⟨xp, xq, xn, xst, xsp, xsd, xc⟩, xf, xs, xb, xi⟩ := id hX
  cases o with
  | false =>
    refine pv_aload_0 (pc := 0) dX11_same_0 ?_
    refine pv_iload_1 (pc := 1) dX11_same_1 ?_
    refine pv_iload_3 (pc := 2) dX11_same_2 ?_
    refine pv_callV1 (pc := 3) dX11_same_3 mgX11_noPart lv_X11_203_11 (by decide) (sx_16 hT) (by omega) (c_X11_noPart hW hX (by omega)) rfl rfl (by decide) ?_
    refine pv_aload_0 (pc := 6) dX11_same_6 ?_
    refine pv_iload_2 (pc := 7) dX11_same_7 ?_
    refine pv_iload_3 (pc := 8) dX11_same_8 ?_
    refine pv_callV1 (pc := 9) dX11_same_9 mgX11_noPart lv_X11_203_11 (by decide) (sx_16 hT) (by omega) (c_X11_noPart hW hX (by omega)) rfl rfl (Nat.le_of_ble_eq_true rfl) ?_
    refine pv_callS1 (pc := 12) dX11_same_12 mgX11_firstOf ls_X11_89 (by omega) (c_X11_firstOf (by omega)) rfl rfl (by decide) ?_
    refine pv_topv2 (y := x_fb J a b n) rfl ?_
    refine pv_istore_5 (pc := 15) dX11_same_15 (by decide) rfl ?_
    refine pv_iload_5 (pc := 17) dX11_same_17 ?_
    refine pv_if_ne (pc := 19) (tgt := 54) dX11_same_19 (by decide) (fun h19 => ?_) (fun h19 => ?_)
    · refine pv_iload_5 (pc := 54) dX11_same_54 ?_
      refine pv_if_eq (pc := 56) (tgt := 66) dX11_same_56 (by decide) (fun h56 => absurd h56 h19) (fun h56 => ?_)
      refine pv_aload_0 (pc := 59) dX11_same_59 ?_
      refine pv_iload_5 (pc := 60) dX11_same_60 ?_
      refine pv_callV1 (pc := 62) dX11_same_62 mgX11_refuse lv_X11_70_11 (by decide) (sx_16 hT) (by omega) (c_X11_refuse (k := (x_fb J a b n).toNatClampNeg) hT hR rfl (x_fb_ne (K := K) hW a b n false h19).2) rfl rfl (by decide) ?_
      refine pv_iret (pc := 65) dX11_same_65 rfl rfl ?_
      first
        | (have g : ¬ x_fb J a b n = 0 := h19
           have e := x_fb_ne (K := K) hW a b n false g
           refine qX.ref hX (pv_in_lt e.2).2.2.1 ?_; exact e.1)
        | (have hda := try_f hW hba (by first | exact h33 | exact Classical.not_not.mp h33)
           refine qX.scrref hX (hf.kC (by decide)) k_l6 ?_
           rw [S_same_e hW hba hbb, if_neg (fun z => absurd (hda.symm.trans z.1) (by decide))]; done)
        | (have hdb := try_f hW hbb (by first | exact h47 | exact Classical.not_not.mp h47)
           refine qX.scrref hX ((hf.kC (by decide)).tr (hf2.kC (by decide))) k_l6 ?_
           rw [S_same_e hW hba hbb, if_neg (fun z => absurd (hdb.symm.trans z.2) (by decide))]; done)
    · have ez : x_fb J a b n = 0 := (by first | exact h19 | exact Classical.not_not.mp h19)
      obtain ⟨hba, hbb⟩ := x_fb_eq ez
      obtain ⟨hin, hn0, hn160⟩ := w_bars_0 hW hba
      rw [ez]
      refine pv_aload_0 (pc := 22) dX11_same_22 ?_
      refine pv_aload_0 (pc := 23) dX11_same_23 ?_
      refine pv_getR (pc := 24) dX11_same_24 fg_X11_38_11 rfl (by decide) (sx_16 hT) (rx_16_6 hR) ?_
      refine pv_iload_1 (pc := 27) dX11_same_27 ?_
      refine pv_iload_3 (pc := 28) dX11_same_28 ?_
      refine pv_callVq (pc := 29) dX11_same_29 mgX11_tryRow lv_X11_206_11 (by decide) (sx_16 hT) (by omega) (c_try25 hW hX hba (by omega)) rfl rfl (by decide) (fun v t I L Rf hq => ?_)
      obtain ⟨rfl, rfl, rfl, hf, hx⟩ := hq
      have hX1 := hX.scr (hf.kC (by decide))
      refine pv_iload_3 (pc := 32) dX11_same_32 ?_
      refine pv_icmp_lt (pc := 33) (tgt := 50) dX11_same_33 (by decide) (fun h33 => ?_) (fun h33 => ?_)
      · refine pv_bipush (pc := 50) (v := 6) dX11_same_50 (by decide) ?_
        refine pv_istore_5 (pc := 52) dX11_same_52 (by decide) rfl ?_
        refine pv_iload_5 (pc := 54) dX11_same_54 ?_
        refine pv_if_eq (pc := 56) (tgt := 66) dX11_same_56 (by decide) (fun q => absurd q (by decide)) (fun _ => ?_)
        refine pv_aload_0 (pc := 59) dX11_same_59 ?_
        refine pv_iload_5 (pc := 60) dX11_same_60 ?_
        refine pv_callV1 (pc := 62) dX11_same_62 mgX11_refuse lv_X11_70_11 (by decide) (sx_16 hT) (by omega) (c_X11_refuse (k := 6) hT hR (by decide) (by unfold vp_in; decide)) rfl rfl (by decide) ?_
        refine pv_iret (pc := 65) dX11_same_65 rfl rfl ?_
        first
          | (have g : ¬ x_fb J a b n = 0 := h19
             have e := x_fb_ne (K := K) hW a b n false g
             refine qX.ref hX (pv_in_lt e.2).2.2.1 ?_; exact e.1)
          | (have hda := try_f hW hba (by first | exact h33 | exact Classical.not_not.mp h33)
             refine qX.scrref hX (hf.kC (by decide)) k_l6 ?_
             rw [S_same_e hW hba hbb, if_neg (fun z => absurd (hda.symm.trans z.1) (by decide))]; done)
          | (have hdb := try_f hW hbb (by first | exact h47 | exact Classical.not_not.mp h47)
             refine qX.scrref hX ((hf.kC (by decide)).tr (hf2.kC (by decide))) k_l6 ?_
             rw [S_same_e hW hba hbb, if_neg (fun z => absurd (hdb.symm.trans z.2) (by decide))]; done)
      · refine pv_aload_0 (pc := 36) dX11_same_36 ?_
        refine pv_aload_0 (pc := 37) dX11_same_37 ?_
        refine pv_getR (pc := 38) dX11_same_38 fg_X11_41_11 rfl (by decide) (sx_16 hT) (rx_16_7 hR) ?_
        refine pv_iload_2 (pc := 41) dX11_same_41 ?_
        refine pv_iload_3 (pc := 42) dX11_same_42 ?_
        refine pv_callVq (pc := 43) dX11_same_43 mgX11_tryRow lv_X11_206_11 (by decide) (sx_16 hT) (by omega) (c_try27 hW hX1 hbb (by omega)) rfl rfl (by decide) (fun v t I L Rf hq => ?_)
        obtain ⟨rfl, rfl, rfl, hf2, hx2⟩ := hq
        refine pv_iload_3 (pc := 46) dX11_same_46 ?_
        refine pv_icmp_ge (pc := 47) (tgt := 54) dX11_same_47 (by decide) (fun h47 => ?_) (fun h47 => ?_)
        · refine pv_iload_5 (pc := 54) dX11_same_54 ?_
          refine pv_if_eq (pc := 56) (tgt := 66) dX11_same_56 (by decide) (fun _ => ?_) (fun q => absurd q (by decide))
          have hda := try_t hW hba h33
          have hdb := try_t hW hbb (by first | exact h47 | exact Classical.not_not.mp h47)
          have ga := ((try_y (K := K) hW hba).1 hda).1
          have gb := ((try_y (K := K) hW hbb).1 hdb).1
          rw [ga] at hx
          rw [gb] at hx2
          have hx := XHw.frame hx hf2 (by decide)
          obtain ⟨y1, y2, y3, y4, y5, y6, y7⟩ := hx
          obtain ⟨z1, z2, z3, z4, z5, z6, z7⟩ := hx2
          have hkk := (hf.kC (by decide)).tr (hf2.kC (by decide))
          refine pv_aload_0 (pc := 66) dX11_same_66 ?_
          refine pv_getR (pc := 67) dX11_same_67 fg_X11_38_11 rfl (by decide) (sx_16 hT) (rx_16_6 hR) ?_
          refine pv_getL (pc := 70) dX11_same_70 fg_X11_186_4 (by decide) (sx_25 hT) ?_
          refine pv_aload_0 (pc := 73) dX11_same_73 ?_
          refine pv_getR (pc := 74) dX11_same_74 fg_X11_41_11 rfl (by decide) (sx_16 hT) (rx_16_7 hR) ?_
          refine pv_getL (pc := 77) dX11_same_77 fg_X11_186_4 (by decide) (sx_27 hT) ?_
          refine pv_lcmp_ne (pc := 80) (tgt := 106) dX11_same_80 dX11_same_81 (by decide) (fun h80 => ?_) (fun h80 => ?_)
          · refine pv_iconst (pc := 106) (v := 0) dX11_same_106 (by decide) ?_
            refine pv_istore_6 (pc := 107) dX11_same_107 (by decide) rfl ?_
            refine pv_iload_6 (pc := 109) dX11_same_109 ?_
            refine pv_if_eq (pc := 111) (tgt := 137) dX11_same_111 (by decide) (fun _ => ?_) (fun q => absurd q (by decide))
            refine pv_iconst (pc := 137) (v := 0) dX11_same_137 (by decide) ?_
            refine pv_iret (pc := 138) dX11_same_138 rfl rfl ?_
            refine qX.scr hX hkk ?_
            rw [S_same_e hW hba hbb, if_pos ⟨hda, hdb⟩]
            unfold w_sv
            refine Prod.ext (congrArg Value.int ?_) rfl
            first
              | (have f1 : ¬ (w_D J K a n).2.2.1 = (w_D J K b n).2.2.1 := (by have f := h80; rw [y1, z1] at f; exact f)
                 rw [decide_eq_false f1]; rfl)
              | (have f1 : (w_D J K a n).2.2.1 = (w_D J K b n).2.2.1 := (by have f := h80; rw [y1, z1] at f; first | exact f | exact Classical.not_not.mp f)
                 have f2 : ¬ (w_D J K a n).2.2.2.1 = (w_D J K b n).2.2.2.1 := (by have f := h98; rw [y2, z2] at f; exact f)
                 rw [decide_eq_true f1, decide_eq_false f2]; rfl)
              | (have f1 : (w_D J K a n).2.2.1 = (w_D J K b n).2.2.1 := (by have f := h80; rw [y1, z1] at f; first | exact f | exact Classical.not_not.mp f)
                 have f2 : (w_D J K a n).2.2.2.1 = (w_D J K b n).2.2.2.1 := (by have f := h98; rw [y2, z2] at f; first | exact f | exact Classical.not_not.mp f)
                 rw [decide_eq_true f1, decide_eq_true f2]
                 first
                   | rfl
                   | (have f3 := (pv_b_0 _).mp h130; rw [f3]; rfl)
                   | (have f3 := (pv_b_n0 _).mp h130; rw [f3]; rfl))
          · refine pv_aload_0 (pc := 84) dX11_same_84 ?_
            refine pv_getR (pc := 85) dX11_same_85 fg_X11_38_11 rfl (by decide) (sx_16 hT) (rx_16_6 hR) ?_
            refine pv_getL (pc := 88) dX11_same_88 fg_X11_190_4 (by decide) (sx_25 hT) ?_
            refine pv_aload_0 (pc := 91) dX11_same_91 ?_
            refine pv_getR (pc := 92) dX11_same_92 fg_X11_41_11 rfl (by decide) (sx_16 hT) (rx_16_7 hR) ?_
            refine pv_getL (pc := 95) dX11_same_95 fg_X11_190_4 (by decide) (sx_27 hT) ?_
            refine pv_lcmp_ne (pc := 98) (tgt := 106) dX11_same_98 dX11_same_99 (by decide) (fun h98 => ?_) (fun h98 => ?_)
            · refine pv_iconst (pc := 106) (v := 0) dX11_same_106 (by decide) ?_
              refine pv_istore_6 (pc := 107) dX11_same_107 (by decide) rfl ?_
              refine pv_iload_6 (pc := 109) dX11_same_109 ?_
              refine pv_if_eq (pc := 111) (tgt := 137) dX11_same_111 (by decide) (fun _ => ?_) (fun q => absurd q (by decide))
              refine pv_iconst (pc := 137) (v := 0) dX11_same_137 (by decide) ?_
              refine pv_iret (pc := 138) dX11_same_138 rfl rfl ?_
              refine qX.scr hX hkk ?_
              rw [S_same_e hW hba hbb, if_pos ⟨hda, hdb⟩]
              unfold w_sv
              refine Prod.ext (congrArg Value.int ?_) rfl
              first
                | (have f1 : ¬ (w_D J K a n).2.2.1 = (w_D J K b n).2.2.1 := (by have f := h80; rw [y1, z1] at f; exact f)
                   rw [decide_eq_false f1]; rfl)
                | (have f1 : (w_D J K a n).2.2.1 = (w_D J K b n).2.2.1 := (by have f := h80; rw [y1, z1] at f; first | exact f | exact Classical.not_not.mp f)
                   have f2 : ¬ (w_D J K a n).2.2.2.1 = (w_D J K b n).2.2.2.1 := (by have f := h98; rw [y2, z2] at f; exact f)
                   rw [decide_eq_true f1, decide_eq_false f2]; rfl)
                | (have f1 : (w_D J K a n).2.2.1 = (w_D J K b n).2.2.1 := (by have f := h80; rw [y1, z1] at f; first | exact f | exact Classical.not_not.mp f)
                   have f2 : (w_D J K a n).2.2.2.1 = (w_D J K b n).2.2.2.1 := (by have f := h98; rw [y2, z2] at f; first | exact f | exact Classical.not_not.mp f)
                   rw [decide_eq_true f1, decide_eq_true f2]
                   first
                     | rfl
                     | (have f3 := (pv_b_0 _).mp h130; rw [f3]; rfl)
                     | (have f3 := (pv_b_n0 _).mp h130; rw [f3]; rfl))
            · refine pv_iconst (pc := 102) (v := 1) dX11_same_102 (by decide) ?_
              refine pv_goto (pc := 103) (tgt := 107) dX11_same_103 (by decide) ?_
              refine pv_istore_6 (pc := 107) dX11_same_107 (by decide) rfl ?_
              refine pv_iload_6 (pc := 109) dX11_same_109 ?_
              refine pv_if_eq (pc := 111) (tgt := 137) dX11_same_111 (by decide) (fun q => absurd q (by decide)) (fun _ => ?_)
              refine pv_iload_4 (pc := 114) dX11_same_114 ?_
              refine pv_if_eq (pc := 116) (tgt := 133) dX11_same_116 (by decide) (fun _ => ?_) (fun q => absurd q (by decide))
              refine pv_iconst (pc := 133) (v := 1) dX11_same_133 (by decide) ?_
              refine pv_goto (pc := 134) (tgt := 138) dX11_same_134 (by decide) ?_
              refine pv_iret (pc := 138) dX11_same_138 rfl rfl ?_
              refine qX.scr hX hkk ?_
              rw [S_same_e hW hba hbb, if_pos ⟨hda, hdb⟩]
              unfold w_sv
              refine Prod.ext (congrArg Value.int ?_) rfl
              first
                | (have f1 : ¬ (w_D J K a n).2.2.1 = (w_D J K b n).2.2.1 := (by have f := h80; rw [y1, z1] at f; exact f)
                   rw [decide_eq_false f1]; rfl)
                | (have f1 : (w_D J K a n).2.2.1 = (w_D J K b n).2.2.1 := (by have f := h80; rw [y1, z1] at f; first | exact f | exact Classical.not_not.mp f)
                   have f2 : ¬ (w_D J K a n).2.2.2.1 = (w_D J K b n).2.2.2.1 := (by have f := h98; rw [y2, z2] at f; exact f)
                   rw [decide_eq_true f1, decide_eq_false f2]; rfl)
                | (have f1 : (w_D J K a n).2.2.1 = (w_D J K b n).2.2.1 := (by have f := h80; rw [y1, z1] at f; first | exact f | exact Classical.not_not.mp f)
                   have f2 : (w_D J K a n).2.2.2.1 = (w_D J K b n).2.2.2.1 := (by have f := h98; rw [y2, z2] at f; first | exact f | exact Classical.not_not.mp f)
                   rw [decide_eq_true f1, decide_eq_true f2]
                   first
                     | rfl
                     | (have f3 := (pv_b_0 _).mp h130; rw [f3]; rfl)
                     | (have f3 := (pv_b_n0 _).mp h130; rw [f3]; rfl))
        · refine pv_bipush (pc := 50) (v := 6) dX11_same_50 (by decide) ?_
          refine pv_istore_5 (pc := 52) dX11_same_52 (by decide) rfl ?_
          refine pv_iload_5 (pc := 54) dX11_same_54 ?_
          refine pv_if_eq (pc := 56) (tgt := 66) dX11_same_56 (by decide) (fun q => absurd q (by decide)) (fun _ => ?_)
          refine pv_aload_0 (pc := 59) dX11_same_59 ?_
          refine pv_iload_5 (pc := 60) dX11_same_60 ?_
          refine pv_callV1 (pc := 62) dX11_same_62 mgX11_refuse lv_X11_70_11 (by decide) (sx_16 hT) (by omega) (c_X11_refuse (k := 6) hT hR (by decide) (by unfold vp_in; decide)) rfl rfl (by decide) ?_
          refine pv_iret (pc := 65) dX11_same_65 rfl rfl ?_
          first
            | (have g : ¬ x_fb J a b n = 0 := h19
               have e := x_fb_ne (K := K) hW a b n false g
               refine qX.ref hX (pv_in_lt e.2).2.2.1 ?_; exact e.1)
            | (have hda := try_f hW hba (by first | exact h33 | exact Classical.not_not.mp h33)
               refine qX.scrref hX (hf.kC (by decide)) k_l6 ?_
               rw [S_same_e hW hba hbb, if_neg (fun z => absurd (hda.symm.trans z.1) (by decide))]; done)
            | (have hdb := try_f hW hbb (by first | exact h47 | exact Classical.not_not.mp h47)
               refine qX.scrref hX ((hf.kC (by decide)).tr (hf2.kC (by decide))) k_l6 ?_
               rw [S_same_e hW hba hbb, if_neg (fun z => absurd (hdb.symm.trans z.2) (by decide))]; done)
  | true =>
    refine pv_aload_0 (pc := 0) dX11_same_0 ?_
    refine pv_iload_1 (pc := 1) dX11_same_1 ?_
    refine pv_iload_3 (pc := 2) dX11_same_2 ?_
    refine pv_callV1 (pc := 3) dX11_same_3 mgX11_noPart lv_X11_203_11 (by decide) (sx_16 hT) (by omega) (c_X11_noPart hW hX (by omega)) rfl rfl (by decide) ?_
    refine pv_aload_0 (pc := 6) dX11_same_6 ?_
    refine pv_iload_2 (pc := 7) dX11_same_7 ?_
    refine pv_iload_3 (pc := 8) dX11_same_8 ?_
    refine pv_callV1 (pc := 9) dX11_same_9 mgX11_noPart lv_X11_203_11 (by decide) (sx_16 hT) (by omega) (c_X11_noPart hW hX (by omega)) rfl rfl (Nat.le_of_ble_eq_true rfl) ?_
    refine pv_callS1 (pc := 12) dX11_same_12 mgX11_firstOf ls_X11_89 (by omega) (c_X11_firstOf (by omega)) rfl rfl (by decide) ?_
    refine pv_topv2 (y := x_fb J a b n) rfl ?_
    refine pv_istore_5 (pc := 15) dX11_same_15 (by decide) rfl ?_
    refine pv_iload_5 (pc := 17) dX11_same_17 ?_
    refine pv_if_ne (pc := 19) (tgt := 54) dX11_same_19 (by decide) (fun h19 => ?_) (fun h19 => ?_)
    · refine pv_iload_5 (pc := 54) dX11_same_54 ?_
      refine pv_if_eq (pc := 56) (tgt := 66) dX11_same_56 (by decide) (fun h56 => absurd h56 h19) (fun h56 => ?_)
      refine pv_aload_0 (pc := 59) dX11_same_59 ?_
      refine pv_iload_5 (pc := 60) dX11_same_60 ?_
      refine pv_callV1 (pc := 62) dX11_same_62 mgX11_refuse lv_X11_70_11 (by decide) (sx_16 hT) (by omega) (c_X11_refuse (k := (x_fb J a b n).toNatClampNeg) hT hR rfl (x_fb_ne (K := K) hW a b n true h19).2) rfl rfl (by decide) ?_
      refine pv_iret (pc := 65) dX11_same_65 rfl rfl ?_
      first
        | (have g : ¬ x_fb J a b n = 0 := h19
           have e := x_fb_ne (K := K) hW a b n true g
           refine qX.ref hX (pv_in_lt e.2).2.2.1 ?_; exact e.1)
        | (have hda := try_f hW hba (by first | exact h33 | exact Classical.not_not.mp h33)
           refine qX.scrref hX (hf.kC (by decide)) k_l6 ?_
           rw [S_same_e hW hba hbb, if_neg (fun z => absurd (hda.symm.trans z.1) (by decide))]; done)
        | (have hdb := try_f hW hbb (by first | exact h47 | exact Classical.not_not.mp h47)
           refine qX.scrref hX ((hf.kC (by decide)).tr (hf2.kC (by decide))) k_l6 ?_
           rw [S_same_e hW hba hbb, if_neg (fun z => absurd (hdb.symm.trans z.2) (by decide))]; done)
    · have ez : x_fb J a b n = 0 := (by first | exact h19 | exact Classical.not_not.mp h19)
      obtain ⟨hba, hbb⟩ := x_fb_eq ez
      obtain ⟨hin, hn0, hn160⟩ := w_bars_0 hW hba
      rw [ez]
      refine pv_aload_0 (pc := 22) dX11_same_22 ?_
      refine pv_aload_0 (pc := 23) dX11_same_23 ?_
      refine pv_getR (pc := 24) dX11_same_24 fg_X11_38_11 rfl (by decide) (sx_16 hT) (rx_16_6 hR) ?_
      refine pv_iload_1 (pc := 27) dX11_same_27 ?_
      refine pv_iload_3 (pc := 28) dX11_same_28 ?_
      refine pv_callVq (pc := 29) dX11_same_29 mgX11_tryRow lv_X11_206_11 (by decide) (sx_16 hT) (by omega) (c_try25 hW hX hba (by omega)) rfl rfl (by decide) (fun v t I L Rf hq => ?_)
      obtain ⟨rfl, rfl, rfl, hf, hx⟩ := hq
      have hX1 := hX.scr (hf.kC (by decide))
      refine pv_iload_3 (pc := 32) dX11_same_32 ?_
      refine pv_icmp_lt (pc := 33) (tgt := 50) dX11_same_33 (by decide) (fun h33 => ?_) (fun h33 => ?_)
      · refine pv_bipush (pc := 50) (v := 6) dX11_same_50 (by decide) ?_
        refine pv_istore_5 (pc := 52) dX11_same_52 (by decide) rfl ?_
        refine pv_iload_5 (pc := 54) dX11_same_54 ?_
        refine pv_if_eq (pc := 56) (tgt := 66) dX11_same_56 (by decide) (fun q => absurd q (by decide)) (fun _ => ?_)
        refine pv_aload_0 (pc := 59) dX11_same_59 ?_
        refine pv_iload_5 (pc := 60) dX11_same_60 ?_
        refine pv_callV1 (pc := 62) dX11_same_62 mgX11_refuse lv_X11_70_11 (by decide) (sx_16 hT) (by omega) (c_X11_refuse (k := 6) hT hR (by decide) (by unfold vp_in; decide)) rfl rfl (by decide) ?_
        refine pv_iret (pc := 65) dX11_same_65 rfl rfl ?_
        first
          | (have g : ¬ x_fb J a b n = 0 := h19
             have e := x_fb_ne (K := K) hW a b n true g
             refine qX.ref hX (pv_in_lt e.2).2.2.1 ?_; exact e.1)
          | (have hda := try_f hW hba (by first | exact h33 | exact Classical.not_not.mp h33)
             refine qX.scrref hX (hf.kC (by decide)) k_l6 ?_
             rw [S_same_e hW hba hbb, if_neg (fun z => absurd (hda.symm.trans z.1) (by decide))]; done)
          | (have hdb := try_f hW hbb (by first | exact h47 | exact Classical.not_not.mp h47)
             refine qX.scrref hX ((hf.kC (by decide)).tr (hf2.kC (by decide))) k_l6 ?_
             rw [S_same_e hW hba hbb, if_neg (fun z => absurd (hdb.symm.trans z.2) (by decide))]; done)
      · refine pv_aload_0 (pc := 36) dX11_same_36 ?_
        refine pv_aload_0 (pc := 37) dX11_same_37 ?_
        refine pv_getR (pc := 38) dX11_same_38 fg_X11_41_11 rfl (by decide) (sx_16 hT) (rx_16_7 hR) ?_
        refine pv_iload_2 (pc := 41) dX11_same_41 ?_
        refine pv_iload_3 (pc := 42) dX11_same_42 ?_
        refine pv_callVq (pc := 43) dX11_same_43 mgX11_tryRow lv_X11_206_11 (by decide) (sx_16 hT) (by omega) (c_try27 hW hX1 hbb (by omega)) rfl rfl (by decide) (fun v t I L Rf hq => ?_)
        obtain ⟨rfl, rfl, rfl, hf2, hx2⟩ := hq
        refine pv_iload_3 (pc := 46) dX11_same_46 ?_
        refine pv_icmp_ge (pc := 47) (tgt := 54) dX11_same_47 (by decide) (fun h47 => ?_) (fun h47 => ?_)
        · refine pv_iload_5 (pc := 54) dX11_same_54 ?_
          refine pv_if_eq (pc := 56) (tgt := 66) dX11_same_56 (by decide) (fun _ => ?_) (fun q => absurd q (by decide))
          have hda := try_t hW hba h33
          have hdb := try_t hW hbb (by first | exact h47 | exact Classical.not_not.mp h47)
          have ga := ((try_y (K := K) hW hba).1 hda).1
          have gb := ((try_y (K := K) hW hbb).1 hdb).1
          rw [ga] at hx
          rw [gb] at hx2
          have hx := XHw.frame hx hf2 (by decide)
          obtain ⟨y1, y2, y3, y4, y5, y6, y7⟩ := hx
          obtain ⟨z1, z2, z3, z4, z5, z6, z7⟩ := hx2
          have hkk := (hf.kC (by decide)).tr (hf2.kC (by decide))
          refine pv_aload_0 (pc := 66) dX11_same_66 ?_
          refine pv_getR (pc := 67) dX11_same_67 fg_X11_38_11 rfl (by decide) (sx_16 hT) (rx_16_6 hR) ?_
          refine pv_getL (pc := 70) dX11_same_70 fg_X11_186_4 (by decide) (sx_25 hT) ?_
          refine pv_aload_0 (pc := 73) dX11_same_73 ?_
          refine pv_getR (pc := 74) dX11_same_74 fg_X11_41_11 rfl (by decide) (sx_16 hT) (rx_16_7 hR) ?_
          refine pv_getL (pc := 77) dX11_same_77 fg_X11_186_4 (by decide) (sx_27 hT) ?_
          refine pv_lcmp_ne (pc := 80) (tgt := 106) dX11_same_80 dX11_same_81 (by decide) (fun h80 => ?_) (fun h80 => ?_)
          · refine pv_iconst (pc := 106) (v := 0) dX11_same_106 (by decide) ?_
            refine pv_istore_6 (pc := 107) dX11_same_107 (by decide) rfl ?_
            refine pv_iload_6 (pc := 109) dX11_same_109 ?_
            refine pv_if_eq (pc := 111) (tgt := 137) dX11_same_111 (by decide) (fun _ => ?_) (fun q => absurd q (by decide))
            refine pv_iconst (pc := 137) (v := 0) dX11_same_137 (by decide) ?_
            refine pv_iret (pc := 138) dX11_same_138 rfl rfl ?_
            refine qX.scr hX hkk ?_
            rw [S_same_e hW hba hbb, if_pos ⟨hda, hdb⟩]
            unfold w_sv
            refine Prod.ext (congrArg Value.int ?_) rfl
            first
              | (have f1 : ¬ (w_D J K a n).2.2.1 = (w_D J K b n).2.2.1 := (by have f := h80; rw [y1, z1] at f; exact f)
                 rw [decide_eq_false f1]; rfl)
              | (have f1 : (w_D J K a n).2.2.1 = (w_D J K b n).2.2.1 := (by have f := h80; rw [y1, z1] at f; first | exact f | exact Classical.not_not.mp f)
                 have f2 : ¬ (w_D J K a n).2.2.2.1 = (w_D J K b n).2.2.2.1 := (by have f := h98; rw [y2, z2] at f; exact f)
                 rw [decide_eq_true f1, decide_eq_false f2]; rfl)
              | (have f1 : (w_D J K a n).2.2.1 = (w_D J K b n).2.2.1 := (by have f := h80; rw [y1, z1] at f; first | exact f | exact Classical.not_not.mp f)
                 have f2 : (w_D J K a n).2.2.2.1 = (w_D J K b n).2.2.2.1 := (by have f := h98; rw [y2, z2] at f; first | exact f | exact Classical.not_not.mp f)
                 rw [decide_eq_true f1, decide_eq_true f2]
                 first
                   | rfl
                   | (have f3 := (pv_b_0 _).mp h130; rw [f3]; rfl)
                   | (have f3 := (pv_b_n0 _).mp h130; rw [f3]; rfl))
          · refine pv_aload_0 (pc := 84) dX11_same_84 ?_
            refine pv_getR (pc := 85) dX11_same_85 fg_X11_38_11 rfl (by decide) (sx_16 hT) (rx_16_6 hR) ?_
            refine pv_getL (pc := 88) dX11_same_88 fg_X11_190_4 (by decide) (sx_25 hT) ?_
            refine pv_aload_0 (pc := 91) dX11_same_91 ?_
            refine pv_getR (pc := 92) dX11_same_92 fg_X11_41_11 rfl (by decide) (sx_16 hT) (rx_16_7 hR) ?_
            refine pv_getL (pc := 95) dX11_same_95 fg_X11_190_4 (by decide) (sx_27 hT) ?_
            refine pv_lcmp_ne (pc := 98) (tgt := 106) dX11_same_98 dX11_same_99 (by decide) (fun h98 => ?_) (fun h98 => ?_)
            · refine pv_iconst (pc := 106) (v := 0) dX11_same_106 (by decide) ?_
              refine pv_istore_6 (pc := 107) dX11_same_107 (by decide) rfl ?_
              refine pv_iload_6 (pc := 109) dX11_same_109 ?_
              refine pv_if_eq (pc := 111) (tgt := 137) dX11_same_111 (by decide) (fun _ => ?_) (fun q => absurd q (by decide))
              refine pv_iconst (pc := 137) (v := 0) dX11_same_137 (by decide) ?_
              refine pv_iret (pc := 138) dX11_same_138 rfl rfl ?_
              refine qX.scr hX hkk ?_
              rw [S_same_e hW hba hbb, if_pos ⟨hda, hdb⟩]
              unfold w_sv
              refine Prod.ext (congrArg Value.int ?_) rfl
              first
                | (have f1 : ¬ (w_D J K a n).2.2.1 = (w_D J K b n).2.2.1 := (by have f := h80; rw [y1, z1] at f; exact f)
                   rw [decide_eq_false f1]; rfl)
                | (have f1 : (w_D J K a n).2.2.1 = (w_D J K b n).2.2.1 := (by have f := h80; rw [y1, z1] at f; first | exact f | exact Classical.not_not.mp f)
                   have f2 : ¬ (w_D J K a n).2.2.2.1 = (w_D J K b n).2.2.2.1 := (by have f := h98; rw [y2, z2] at f; exact f)
                   rw [decide_eq_true f1, decide_eq_false f2]; rfl)
                | (have f1 : (w_D J K a n).2.2.1 = (w_D J K b n).2.2.1 := (by have f := h80; rw [y1, z1] at f; first | exact f | exact Classical.not_not.mp f)
                   have f2 : (w_D J K a n).2.2.2.1 = (w_D J K b n).2.2.2.1 := (by have f := h98; rw [y2, z2] at f; first | exact f | exact Classical.not_not.mp f)
                   rw [decide_eq_true f1, decide_eq_true f2]
                   first
                     | rfl
                     | (have f3 := (pv_b_0 _).mp h130; rw [f3]; rfl)
                     | (have f3 := (pv_b_n0 _).mp h130; rw [f3]; rfl))
            · refine pv_iconst (pc := 102) (v := 1) dX11_same_102 (by decide) ?_
              refine pv_goto (pc := 103) (tgt := 107) dX11_same_103 (by decide) ?_
              refine pv_istore_6 (pc := 107) dX11_same_107 (by decide) rfl ?_
              refine pv_iload_6 (pc := 109) dX11_same_109 ?_
              refine pv_if_eq (pc := 111) (tgt := 137) dX11_same_111 (by decide) (fun q => absurd q (by decide)) (fun _ => ?_)
              refine pv_iload_4 (pc := 114) dX11_same_114 ?_
              refine pv_if_eq (pc := 116) (tgt := 133) dX11_same_116 (by decide) (fun q => absurd q (by decide)) (fun _ => ?_)
              refine pv_aload_0 (pc := 119) dX11_same_119 ?_
              refine pv_getR (pc := 120) dX11_same_120 fg_X11_38_11 rfl (by decide) (sx_16 hT) (rx_16_6 hR) ?_
              refine pv_aload_0 (pc := 123) dX11_same_123 ?_
              refine pv_getR (pc := 124) dX11_same_124 fg_X11_41_11 rfl (by decide) (sx_16 hT) (rx_16_7 hR) ?_
              refine pv_callV1 (pc := 127) dX11_same_127 mgX4_standsLike lv_X11_220_4 (by decide) (sx_25 hT) (by omega) (c_X4_standsLike hT hR) rfl rfl (by decide) ?_
              have y70 : I 26 0 = (w_D J K a n).2.2.2.2.1 0 := y7 0 (by decide)
              have y71 : I 26 1 = (w_D J K a n).2.2.2.2.1 1 := y7 1 (by decide)
              have y72 : I 26 2 = (w_D J K a n).2.2.2.2.1 2 := y7 2 (by decide)
              have y73 : I 26 3 = (w_D J K a n).2.2.2.2.1 3 := y7 3 (by decide)
              have z70 : I 28 0 = (w_D J K b n).2.2.2.2.1 0 := z7 0 (by decide)
              have z71 : I 28 1 = (w_D J K b n).2.2.2.2.1 1 := z7 1 (by decide)
              have z72 : I 28 2 = (w_D J K b n).2.2.2.2.1 2 := z7 2 (by decide)
              have z73 : I 28 3 = (w_D J K b n).2.2.2.2.1 3 := z7 3 (by decide)
              rw [y70, z70, y71, z71, y72, z72, y73, z73]
              refine pv_if_eq (pc := 130) (tgt := 137) dX11_same_130 (by decide) (fun h130 => ?_) (fun h130 => ?_)
              · refine pv_iconst (pc := 137) (v := 0) dX11_same_137 (by decide) ?_
                refine pv_iret (pc := 138) dX11_same_138 rfl rfl ?_
                refine qX.scr hX hkk ?_
                rw [S_same_e hW hba hbb, if_pos ⟨hda, hdb⟩]
                unfold w_sv
                refine Prod.ext (congrArg Value.int ?_) rfl
                first
                  | (have f1 : ¬ (w_D J K a n).2.2.1 = (w_D J K b n).2.2.1 := (by have f := h80; rw [y1, z1] at f; exact f)
                     rw [decide_eq_false f1]; rfl)
                  | (have f1 : (w_D J K a n).2.2.1 = (w_D J K b n).2.2.1 := (by have f := h80; rw [y1, z1] at f; first | exact f | exact Classical.not_not.mp f)
                     have f2 : ¬ (w_D J K a n).2.2.2.1 = (w_D J K b n).2.2.2.1 := (by have f := h98; rw [y2, z2] at f; exact f)
                     rw [decide_eq_true f1, decide_eq_false f2]; rfl)
                  | (have f1 : (w_D J K a n).2.2.1 = (w_D J K b n).2.2.1 := (by have f := h80; rw [y1, z1] at f; first | exact f | exact Classical.not_not.mp f)
                     have f2 : (w_D J K a n).2.2.2.1 = (w_D J K b n).2.2.2.1 := (by have f := h98; rw [y2, z2] at f; first | exact f | exact Classical.not_not.mp f)
                     rw [decide_eq_true f1, decide_eq_true f2]
                     first
                       | rfl
                       | (have f3 := (pv_b_0 _).mp h130; rw [f3]; rfl)
                       | (have f3 := (pv_b_n0 _).mp h130; rw [f3]; rfl))
              · refine pv_iconst (pc := 133) (v := 1) dX11_same_133 (by decide) ?_
                refine pv_goto (pc := 134) (tgt := 138) dX11_same_134 (by decide) ?_
                refine pv_iret (pc := 138) dX11_same_138 rfl rfl ?_
                refine qX.scr hX hkk ?_
                rw [S_same_e hW hba hbb, if_pos ⟨hda, hdb⟩]
                unfold w_sv
                refine Prod.ext (congrArg Value.int ?_) rfl
                first
                  | (have f1 : ¬ (w_D J K a n).2.2.1 = (w_D J K b n).2.2.1 := (by have f := h80; rw [y1, z1] at f; exact f)
                     rw [decide_eq_false f1]; rfl)
                  | (have f1 : (w_D J K a n).2.2.1 = (w_D J K b n).2.2.1 := (by have f := h80; rw [y1, z1] at f; first | exact f | exact Classical.not_not.mp f)
                     have f2 : ¬ (w_D J K a n).2.2.2.1 = (w_D J K b n).2.2.2.1 := (by have f := h98; rw [y2, z2] at f; exact f)
                     rw [decide_eq_true f1, decide_eq_false f2]; rfl)
                  | (have f1 : (w_D J K a n).2.2.1 = (w_D J K b n).2.2.1 := (by have f := h80; rw [y1, z1] at f; first | exact f | exact Classical.not_not.mp f)
                     have f2 : (w_D J K a n).2.2.2.1 = (w_D J K b n).2.2.2.1 := (by have f := h98; rw [y2, z2] at f; first | exact f | exact Classical.not_not.mp f)
                     rw [decide_eq_true f1, decide_eq_true f2]
                     first
                       | rfl
                       | (have f3 := (pv_b_0 _).mp h130; rw [f3]; rfl)
                       | (have f3 := (pv_b_n0 _).mp h130; rw [f3]; rfl))
        · refine pv_bipush (pc := 50) (v := 6) dX11_same_50 (by decide) ?_
          refine pv_istore_5 (pc := 52) dX11_same_52 (by decide) rfl ?_
          refine pv_iload_5 (pc := 54) dX11_same_54 ?_
          refine pv_if_eq (pc := 56) (tgt := 66) dX11_same_56 (by decide) (fun q => absurd q (by decide)) (fun _ => ?_)
          refine pv_aload_0 (pc := 59) dX11_same_59 ?_
          refine pv_iload_5 (pc := 60) dX11_same_60 ?_
          refine pv_callV1 (pc := 62) dX11_same_62 mgX11_refuse lv_X11_70_11 (by decide) (sx_16 hT) (by omega) (c_X11_refuse (k := 6) hT hR (by decide) (by unfold vp_in; decide)) rfl rfl (by decide) ?_
          refine pv_iret (pc := 65) dX11_same_65 rfl rfl ?_
          first
            | (have g : ¬ x_fb J a b n = 0 := h19
               have e := x_fb_ne (K := K) hW a b n true g
               refine qX.ref hX (pv_in_lt e.2).2.2.1 ?_; exact e.1)
            | (have hda := try_f hW hba (by first | exact h33 | exact Classical.not_not.mp h33)
               refine qX.scrref hX (hf.kC (by decide)) k_l6 ?_
               rw [S_same_e hW hba hbb, if_neg (fun z => absurd (hda.symm.trans z.1) (by decide))]; done)
            | (have hdb := try_f hW hbb (by first | exact h47 | exact Classical.not_not.mp h47)
               refine qX.scrref hX ((hf.kC (by decide)).tr (hf2.kC (by decide))) k_l6 ?_
               rw [S_same_e hW hba hbb, if_neg (fun z => absurd (hdb.symm.trans z.2) (by decide))]; done)

theorem RX.im {J : pv_I} {K : pv_L} {t : pv_T} {I I1 : pv_I} {L L1 : pv_L} {Rf : pv_R} (hW : WF J K) (h : RX J K t I L Rf) (f : fH 23 I L I1 L1) (g : XHw 23 (J 0 0) (J 0 1) (J 0 2) (J 0 3) (K 0 0) (K 0 1) (J 4) I1 L1) : RX (w_im J) (pv_u (pv_u K 0 2 (K 0 0)) 0 3 (K 0 1)) t (pv_u I1 16 11 1) L1 Rf := by
  obtain ⟨h1, h2, h3, h4, h5, h6, h7⟩ := h
  have jo : ∀ a j, a ≠ 5 → ¬ (a = 0 ∧ 6 ≤ j) → w_im J a j = J a j := fun a j h1 h2 => by
    unfold w_im
    rw [pv_ur_app, if_neg h1, pv_u_o _ (by omega), pv_u_o _ (by omega), pv_u_o _ (by omega), pv_u_o _ (by omega), pv_u_o _ (by omega)]
  have ja : ∀ a, a ≠ 5 → a ≠ 0 → w_im J a = J a := fun a h1 h2 => funext fun j => jo a j h1 (by omega)
  have j5 : w_im J 5 = J 4 := by funext j; unfold w_im; rw [pv_ur_app, if_pos rfl]
  have j0 : ∀ j, w_im J 0 j = pv_u (pv_u (pv_u (pv_u (pv_u J 0 6 1) 0 7 (J 0 0)) 0 8 (J 0 1)) 0 9 (J 0 2)) 0 10 (J 0 3) 0 j := fun j => by unfold w_im; rw [pv_ur_app, if_neg (by decide)]
  have ko : ∀ a j, ¬ (a = 0 ∧ (j = 2 ∨ j = 3)) → pv_u (pv_u K 0 2 (K 0 0)) 0 3 (K 0 1) a j = K a j := fun a j h => by rw [pv_u_o _ (by omega), pv_u_o _ (by omega)]
  have hI : ∀ a j, a ≠ 23 → a ≠ 24 → ¬ (a = 16 ∧ j = 11) → pv_u I1 16 11 1 a j = I a j := fun a j q1 q2 q3 => by rw [pv_u_o _ q3]; exact f.1 a j q1 q2
  refine ⟨h1, h2, ?_, fun i hi => ?_, fun s hs => ?_, ⟨fun k hk => ?_, ?_, ?_, ?_, fun i g1 g2 => ?_⟩, fun _ => ?_⟩
  · rw [jo 0 0 (by decide) (by omega), jo 0 1 (by decide) (by omega), jo 0 2 (by decide) (by omega), jo 0 3 (by decide) (by omega), ja 4 (by decide) (by decide), ko 0 0 (by omega), ko 0 1 (by omega)]
    exact h3.cg (fun j => hI 21 j (by decide) (by decide) (by omega)) (fun j => hI 22 j (by decide) (by decide) (by omega)) (fun j => f.2 21 j (by decide))
  · rw [jo 0 0 (by decide) (by omega)] at hi
    rw [ja 1 (by decide) (by decide), ja 2 (by decide) (by decide), ja 3 (by decide) (by decide)]
    exact h4.cg (fun a j ha => hI a j (by omega) (by omega) (by omega)) i hi
  · have g := (h5 s hs).cg (fun j _ => hI _ j (by omega) (by omega) (by omega)) (fun j => f.2 _ j (by omega))
    unfold XS at g ⊢
    rw [ja 6 (by decide) (by decide), ja 7 (by decide) (by decide), ja 8 (by decide) (by decide), ja 9 (by decide) (by decide)]
    refine ⟨g.1, fun q => ?_, g.2.2⟩
    obtain ⟨g1, g2, g3, g4⟩ := g.2.1 q
    exact ⟨g1, g2, g3, fun j hj => by rw [ko _ j (by omega)]; exact g4 j hj⟩
  · rw [hI 19 k (by decide) (by decide) (by omega), ja 10 (by decide) (by decide)]; exact h6.1 k hk
  · rw [hI 16 12 (by decide) (by decide) (by decide), jo 0 4 (by decide) (by omega)]; exact h6.2.1
  · rw [j0]; rfl
  · rw [hI 20 0 (by decide) (by decide) (by decide), jo 0 5 (by decide) (by omega)]; exact h6.2.2.2.1
  · rw [jo 0 5 (by decide) (by omega)] at g2
    rw [hI 20 _ (by decide) (by decide) (by omega), ja 11 (by decide) (by decide)]; exact h6.2.2.2.2 i g1 g2
  · rw [j5, j0, j0, j0, j0]
    exact g.cg (fun j => pv_u_o _ (by omega)) (fun j => pv_u_o _ (by omega)) (fun _ => rfl)
set_option maxRecDepth 100000 in
set_option maxHeartbeats 4000000 in
theorem c_X11_image {G : pv_G} {d : Nat} {J : pv_I} {K : pv_L}  {t : pv_T} {I : pv_I} {L : pv_L} {Rf : pv_R} (hW : WF J K) (hX : RX J K t I L Rf)  (hd : 60 ≤ d) : pv_Mt G mX11_image d 0 0 [.ref 16] t I L Rf (qX (S_image J K) I L) := by
  refine pv_mt mgX11_image.2.2.2.2.2 [.ref 16] rfl (Nat.le_of_ble_eq_true rfl) ?_
  have hT := hX.1
  have hR := hX.2.1
  obtain ⟨-, -, ⟨xp, xq, xn, xst, xsp, xsd, xc⟩, xf, xs, xb, xi⟩ := id hX
  refine pv_aload_0 (pc := 0) dX11_image_0 ?_
  refine pv_getR (pc := 1) dX11_image_1 fg_X11_35_11 rfl (by decide) (sx_16 hT) (rx_16_5 hR) ?_
  refine pv_aload_0 (pc := 4) dX11_image_4 ?_
  refine pv_getR (pc := 5) dX11_image_5 fg_X11_31_11 rfl (by decide) (sx_16 hT) (rx_16_4 hR) ?_
  refine pv_callVq (pc := 8) dX11_image_8 mgX4_takeFrom lv_X11_169_4 (by decide) (sx_23 hT) (by omega) (c_tk_23_21 hT hR hX.2.2.1 (by omega)) rfl rfl (by decide) (fun v t I L Rf hq => ?_)
  obtain ⟨rfl, rfl, rfl, hf, hx⟩ := hq
  refine pv_aload_0 (pc := 11) dX11_image_11 ?_
  refine pv_iconst (pc := 12) (v := 1) dX11_image_12 (by decide) ?_
  refine pv_putI (pc := 13) dX11_image_13 fl_X11_336_11 (fun q => by cases q) ⟨rfl, rfl, rfl⟩ (by decide) (sx_16 hT) ?_
  refine pv_aload_0 (pc := 16) dX11_image_16 ?_
  refine pv_getR (pc := 17) dX11_image_17 fg_X11_31_11 rfl (by decide) (sx_16 hT) (rx_16_4 hR) ?_
  refine pv_getI (pc := 20) dX11_image_20 fg_X11_151_4 rfl (by decide) (sx_21 hT) ?_
  refine pv_iret (pc := 23) dX11_image_23 rfl rfl ?_
  have e : pv_u I 16 11 1 21 3 = J 0 0 := by rw [pv_u_o _ (by decide), hf.1 21 3 (by decide) (by decide)]; exact xn
  exact ⟨congrArg (fun z => some (Value.int z)) e, RX.im hW hX hf hx, (hf.kM (by decide)).tr (kM.rf.uI 16 11 _ (by decide))⟩

theorem w_re_o {J : pv_I} {a j : Nat} (h1 : a ≠ 4) (h2 : a ≠ 6) (h3 : ¬ (a = 0 ∧ j < 4)) : w_re J a j = J a j := by
  unfold w_re
  rw [pv_ur_app, if_neg h2, pv_ur_app, if_neg h1, pv_u_o _ (by omega), pv_u_o _ (by omega), pv_u_o _ (by omega), pv_u_o _ (by omega)]
theorem w_re_0 {J : pv_I} : w_re J 0 0 = J 0 7 ∧ w_re J 0 1 = J 0 8 ∧ w_re J 0 2 = J 0 9 ∧ w_re J 0 3 = J 0 10 := by
  unfold w_re
  refine ⟨?_, ?_, ?_, ?_⟩ <;> rw [pv_ur_app, if_neg (by decide), pv_ur_app, if_neg (by decide)] <;> rfl
theorem w_re_4 {J : pv_I} : w_re J 4 = J 5 := by funext j; unfold w_re; rw [pv_ur_app, if_neg (by decide), pv_ur_app, if_pos rfl]
theorem w_re_6 {J : pv_I} {s : Nat} : w_re J 6 s = if s < 8 ∧ J 6 s = 2 ∧ ¬ J 9 s < J 0 7 then 0 else J 6 s := by unfold w_re; rw [pv_ur_app, if_pos rfl]
abbrev w_rK (K : pv_L) : pv_L := pv_u (pv_u K 0 0 (K 0 2)) 0 1 (K 0 3)
/-- shelf s as it is once the image is restored -/
theorem XS.re {J : pv_I} {K : pv_L} {I : pv_I} {L : pv_L} {s : Nat} (hs : s < 8) (h : XS J K I L s) (hn : J 6 s = 2 → J 9 s < J 0 7) : XS (w_re J) (w_rK K) I L s := by
  have e6 : w_re J 6 s = J 6 s := by rw [w_re_6, if_neg (fun z => z.2.2 (hn z.2.1))]
  unfold XS at h ⊢
  rw [e6, w_re_o (by decide) (by decide) (by omega), w_re_o (by decide) (by decide) (by omega), w_re_o (by decide) (by decide) (by omega)]
  refine ⟨h.1, fun q => ?_, h.2.2⟩
  obtain ⟨g1, g2, g3, g4⟩ := h.2.1 q
  exact ⟨g1, g2, g3, fun j hj => by unfold w_rK; rw [pv_u_o _ (by omega), pv_u_o _ (by omega)]; exact g4 j hj⟩
theorem XS.re0 {J : pv_I} {K : pv_L} {I : pv_I} {L : pv_L} {s : Nat} (hs : s < 8) (h2 : J 6 s = 2) (hn : ¬ J 9 s < J 0 7) (h : I (45 + 2 * s) 1 = -1 ∧ I (45 + 2 * s) 2 = 0 ∧ I (45 + 2 * s) 3 = -1) : XS (w_re J) (w_rK K) I L s := by
  have e6 : w_re J 6 s = 0 := by rw [w_re_6, if_pos ⟨hs, h2, hn⟩]
  exact ⟨fun _ => h, fun q => by rw [e6] at q; exact absurd q (by decide), fun q => by rw [e6] at q; exact absurd q (by decide)⟩
theorem RX.re {J : pv_I} {K : pv_L} {t : pv_T} {I I1 : pv_I} {L L1 : pv_L} {Rf : pv_R} (hW : WF J K) (h : RX J K t I L Rf) (h6 : J 0 6 = 1) (f : ∀ a j, a ≠ 21 → a ≠ 22 → (∀ s, s < 8 → a ≠ 45 + 2 * s) → I1 a j = I a j) (fL : ∀ a j, a ≠ 21 → L1 a j = L a j) (g : XHw 21 (J 0 7) (J 0 8) (J 0 9) (J 0 10) (K 0 2) (K 0 3) (J 5) I1 L1) (hs : ∀ s, s < 8 → XS (w_re J) (w_rK K) I1 L1 s) : RX (w_re J) (w_rK K) t I1 L1 Rf := by
  obtain ⟨h1, h2, h3, h4, q5, h6', h7⟩ := h
  have w6 := (hW.2.2.2.2.2 h6).1
  have ja : ∀ a, a ≠ 4 → a ≠ 6 → a ≠ 0 → w_re J a = J a := fun a x1 x2 x3 => funext fun j => w_re_o x1 x2 (by omega)
  obtain ⟨z0, z1, z2, z3⟩ := w_re_0 (J := J)
  refine ⟨h1, h2, ?_, fun i hi => ?_, hs, ⟨fun k hk => ?_, ?_, ?_, ?_, fun i g1 g2 => ?_⟩, fun q => ?_⟩
  · rw [z0, z1, z2, z3, w_re_4]; exact g
  · rw [z0] at hi
    rw [ja 1 (by decide) (by decide) (by decide), ja 2 (by decide) (by decide) (by decide), ja 3 (by decide) (by decide) (by decide)]
    exact h4.cg (fun a j ha => f a j (by omega) (by omega) (by omega)) i (by omega)
  · rw [f 19 k (by decide) (by decide) (by omega), ja 10 (by decide) (by decide) (by decide)]; exact h6'.1 k hk
  · rw [f 16 12 (by decide) (by decide) (by omega), w_re_o (by decide) (by decide) (by omega)]; exact h6'.2.1
  · rw [f 16 11 (by decide) (by decide) (by omega), w_re_o (by decide) (by decide) (by omega)]; exact h6'.2.2.1
  · rw [f 20 0 (by decide) (by decide) (by omega), w_re_o (by decide) (by decide) (by omega)]; exact h6'.2.2.2.1
  · rw [w_re_o (by decide) (by decide) (by omega)] at g2
    rw [f 20 _ (by decide) (by decide) (by omega), ja 11 (by decide) (by decide) (by decide)]; exact h6'.2.2.2.2 i g1 g2
  · rw [w_re_o (by decide) (by decide) (by omega), w_re_o (by decide) (by decide) (by omega), w_re_o (by decide) (by decide) (by omega), w_re_o (by decide) (by decide) (by omega), ja 5 (by decide) (by decide) (by decide)]
    have e2 : w_rK K 0 2 = K 0 2 := by unfold w_rK; rw [pv_u_o _ (by decide), pv_u_o _ (by decide)]
    have e3 : w_rK K 0 3 = K 0 3 := by unfold w_rK; rw [pv_u_o _ (by decide), pv_u_o _ (by decide)]
    rw [e2, e3]
    exact (h7 h6).cg (fun j => f 23 j (by decide) (by decide) (by omega)) (fun j => f 24 j (by decide) (by decide) (by omega)) (fun j => fL 23 j (by decide))
set_option maxRecDepth 100000 in
set_option maxHeartbeats 4000000 in
theorem x_restl {G : pv_G} {d : Nat} {J : pv_I} {K : pv_L} {t : pv_T} {I0 I1 : pv_I} {L0 L : pv_L} {Rf : pv_R} (hW : WF J K) (hX : RX J K t I0 L0 Rf) (h6 : J 0 6 = 1) (hf : fH 21 I0 L0 I1 L) (hx : XHw 21 (J 0 7) (J 0 8) (J 0 9) (J 0 10) (K 0 2) (K 0 3) (J 5) I1 L) (hd : 10 ≤ d) : ∀ (m k : Nat) (I : pv_I) (l2 : Value), k + m = 8 → (∀ a j, (∀ s, s < 8 → a ≠ 45 + 2 * s) → I a j = I1 a j) → (∀ s, s < 8 → s < k → XS (w_re J) (w_rK K) I L s) → (∀ s, s < 8 → k ≤ s → ∀ j, I (45 + 2 * s) j = I0 (45 + 2 * s) j) →
    pv_V G mX11_restore d 0 0 (qX (S_restore J K) I0 L0) 0 0 27 [.ref 16, .int (Int32.ofNat k), l2] [] t I L Rf := by
  have hT := hX.1
  have hR := hX.2.1
  intro m
  induction m with
  | zero =>
    intro k I l2 hkm hI hA hB
    refine pv_iload_1 (pc := 27) dX11_restore_27 ?_
    refine pv_bipush (pc := 28) (v := 8) dX11_restore_28 (by decide) ?_
    refine pv_icmp_ge (pc := 30) (tgt := 69) dX11_restore_30 (by decide) (fun h30 => ?_) (fun h30 => absurd h30 (by rw [i_lt, i_of (by omega), show (8 : Int32).toInt = 8 by decide]; omega))
    refine pv_aload_0 (pc := 69) dX11_restore_69 ?_
    refine pv_getR (pc := 70) dX11_restore_70 fg_X11_31_11 rfl (by decide) (sx_16 hT) (rx_16_4 hR) ?_
    refine pv_getI (pc := 73) dX11_restore_73 fg_X11_151_4 rfl (by decide) (sx_21 hT) ?_
    refine pv_iret (pc := 76) dX11_restore_76 rfl rfl ?_
    have e : S_restore J K = (.int (J 0 7), w_re J, w_rK K) := by unfold S_restore; rw [if_pos h6]
    rw [e]
    have hxx := hx.cg (I1 := I) (L1 := L) (fun j => hI 21 j (by omega)) (fun j => hI 22 j (by omega)) (fun _ => rfl)
    have hfo : ∀ a j, a ≠ 21 → a ≠ 22 → (∀ s, s < 8 → a ≠ 45 + 2 * s) → I a j = I0 a j := fun a j q1 q2 q3 => (hI a j q3).trans (hf.1 a j q1 q2)
    exact ⟨congrArg (fun z => some (Value.int z)) hxx.2.2.1, RX.re hW hX h6 hfo hf.2 hxx (fun s hs => hA s hs (by omega)), kM.of (fun a j q1 q2 => hfo a j (by omega) (by omega) (by omega)) (fun a j q1 q2 => hf.2 a j (by omega))⟩
  | succ m ih =>
    intro k I l2 hkm hI hA hB
    have hk8 : k < 8 := by omega
    refine pv_iload_1 (pc := 27) dX11_restore_27 ?_
    refine pv_bipush (pc := 28) (v := 8) dX11_restore_28 (by decide) ?_
    refine pv_icmp_ge (pc := 30) (tgt := 69) dX11_restore_30 (by decide) (fun h30 => absurd h30 (not_not_intro (by rw [i_lt, i_of (by omega), show (8 : Int32).toInt = 8 by decide]; omega))) (fun h30 => ?_)
    refine pv_aload_0 (pc := 33) dX11_restore_33 ?_
    refine pv_getR (pc := 34) dX11_restore_34 fg_X11_11_11 rfl (by decide) (sx_16 hT) (rx_16_0 hR) ?_
    refine pv_iload_1 (pc := 37) dX11_restore_37 ?_
    refine pv_aaload (pc := 38) dX11_restore_38 (by decide) (sx_17 hT) (i_in (by omega) (by omega)) (by rw [i_nat (by omega), rx_sh hR hk8]) ?_
    refine pv_astore_2 (pc := 39) dX11_restore_39 (by decide) rfl ?_
    refine pv_aload_2 (pc := 40) dX11_restore_40 ?_
    refine pv_ifnull (pc := 41) dX11_restore_41 ?_
    refine pv_aload_2 (pc := 44) dX11_restore_44 ?_
    refine pv_getI (pc := 45) dX11_restore_45 fg_X11_126_8 rfl (by omega) (sx_sh hT hk8) ?_
    refine pv_aload_0 (pc := 48) dX11_restore_48 ?_
    refine pv_getR (pc := 49) dX11_restore_49 fg_X11_31_11 rfl (by decide) (sx_16 hT) (rx_16_4 hR) ?_
    refine pv_getI (pc := 52) dX11_restore_52 fg_X11_151_4 rfl (by decide) (sx_21 hT) ?_
    refine pv_icmp_lt (pc := 55) (tgt := 63) dX11_restore_55 (by decide) (fun h55 => ?_) (fun h55 => ?_)
    · refine pv_iinc_1 (pc := 63) (v := _ + 1) dX11_restore_63 rfl (by decide) rfl ?_
      refine pv_goto (pc := 66) (tgt := 27) dX11_restore_66 (by decide) ?_
      rw [i_inc]
      have e3 : J 9 k = J 9 k := rfl
      have hB3 : I (45 + 2 * k) 3 = I0 (45 + 2 * k) 3 := (hB k hk8 (Nat.le_refl _) 3)
      have hcnt : I 21 3 = J 0 7 := (hI 21 3 (by omega)).trans hx.2.2.1
      have hw7 := (hW.2.2.2.2.2 h6).1
      have hXk := hX.2.2.2.2.1 k hk8
      have hXI : XS J K I L k := hXk.cg (fun j _ => hB k hk8 (Nat.le_refl _) j) (fun j => hf.2 _ j (by omega))
      rcases x_kind hW hX hk8 with ⟨k1, k2, k3, k4⟩ | ⟨k1, k2, k3, k4, k5, k6, k7⟩ | ⟨k1, k2, k3, k4, k5⟩
      · exact ih (k + 1) _ _ (by omega) hI (fun s hs hsk => if e : s = k then e ▸ XS.re hk8 hXI (fun z => by rw [k1] at z; exact absurd z (by decide)) else hA s hs (by omega)) (fun s hs hsk j => hB s hs (by omega) j)
      · exact ih (k + 1) _ _ (by omega) hI (fun s hs hsk => if e : s = k then e ▸ XS.re hk8 hXI (fun z => by rw [k1] at z; exact absurd z (by decide)) else hA s hs (by omega)) (fun s hs hsk j => hB s hs (by omega) j)
      · have f1 := h55
        rw [hB3, hcnt, k4] at f1
        have f2 : J 9 k < J 0 7 := (by first | exact f1 | exact Classical.not_not.mp f1)
        exact ih (k + 1) _ _ (by omega) hI (fun s hs hsk => if e : s = k then e ▸ XS.re hk8 hXI (fun _ => f2) else hA s hs (by omega)) (fun s hs hsk j => hB s hs (by omega) j)
    · refine pv_aload_2 (pc := 58) dX11_restore_58 ?_
      refine pv_iconst (pc := 59) (v := (-1)) dX11_restore_59 (by decide) ?_
      refine pv_callV0 (pc := 60) dX11_restore_60 mgX8_takeFigure lv_X11_118_8 (by omega) (sx_sh hT hk8) (by omega) (c_X8_takeFigure hT hR hk8) rfl rfl (by decide) ?_
      refine pv_iinc_1 (pc := 63) (v := _ + 1) dX11_restore_63 rfl (by decide) rfl ?_
      refine pv_goto (pc := 66) (tgt := 27) dX11_restore_66 (by decide) ?_
      rw [i_inc]
      have e3 : J 9 k = J 9 k := rfl
      have hB3 : I (45 + 2 * k) 3 = I0 (45 + 2 * k) 3 := (hB k hk8 (Nat.le_refl _) 3)
      have hcnt : I 21 3 = J 0 7 := (hI 21 3 (by omega)).trans hx.2.2.1
      have hw7 := (hW.2.2.2.2.2 h6).1
      have hXk := hX.2.2.2.2.1 k hk8
      have hXI : XS J K I L k := hXk.cg (fun j _ => hB k hk8 (Nat.le_refl _) j) (fun j => hf.2 _ j (by omega))
      rcases x_kind hW hX hk8 with ⟨k1, k2, k3, k4⟩ | ⟨k1, k2, k3, k4, k5, k6, k7⟩ | ⟨k1, k2, k3, k4, k5⟩
      · have f1 := h55
        rw [hB3, hcnt, k4] at f1
        exact absurd (show (-1 : Int32) < J 0 7 by rw [i_lt, show (-1 : Int32).toInt = -1 by decide]; omega) f1
      · have f1 := h55
        rw [hB3, hcnt, k4] at f1
        exact absurd (show (-1 : Int32) < J 0 7 by rw [i_lt, show (-1 : Int32).toInt = -1 by decide]; omega) f1
      · have f1 := h55
        rw [hB3, hcnt, k4] at f1
        refine ih (k + 1) _ _ (by omega) (fun a j q => (x_tr_o (q k hk8)).trans (hI a j q)) (fun s hs hsk => ?_) (fun s hs hsk j => (x_tr_o (by omega)).trans (hB s hs (by omega) j))
        by_cases e : s = k
        · rw [e]; exact XS.re0 hk8 k1 f1 x_tr_1
        · exact (hA s hs (by omega)).cg (fun j _ => x_tr_o (by omega)) (fun _ => rfl)

theorem w_i1 {J : pv_I} {K : pv_L} (hW : WF J K) (h : ¬ J 0 6 = 0) : J 0 6 = 1 := hW.2.2.2.2.1.elim (fun q => absurd q h) id
set_option maxRecDepth 100000 in
set_option maxHeartbeats 4000000 in
theorem c_X11_restore {G : pv_G} {d : Nat} {J : pv_I} {K : pv_L}  {t : pv_T} {I : pv_I} {L : pv_L} {Rf : pv_R} (hW : WF J K) (hX : RX J K t I L Rf)  (hd : 60 ≤ d) : pv_Mt G mX11_restore d 0 0 [.ref 16] t I L Rf (qX (S_restore J K) I L) := by
  refine pv_mt mgX11_restore.2.2.2.2.2 [.ref 16, .retAddr 0, .retAddr 0] rfl (Nat.le_of_ble_eq_true rfl) ?_
  have hT := hX.1
  have hR := hX.2.1
  obtain ⟨-, -, ⟨xp, xq, xn, xst, xsp, xsd, xc⟩, xf, xs, xb, xi⟩ := id hX
  refine pv_aload_0 (pc := 0) dX11_restore_0 ?_
  refine pv_getI (pc := 1) dX11_restore_1 fg_X11_336_11 rfl (by decide) (sx_16 hT) ?_
  refine pv_if_ne (pc := 4) (tgt := 14) dX11_restore_4 (by decide) (fun h4 => ?_) (fun h4 => ?_)
  · refine pv_aload_0 (pc := 14) dX11_restore_14 ?_
    refine pv_getR (pc := 15) dX11_restore_15 fg_X11_31_11 rfl (by decide) (sx_16 hT) (rx_16_4 hR) ?_
    refine pv_aload_0 (pc := 18) dX11_restore_18 ?_
    refine pv_getR (pc := 19) dX11_restore_19 fg_X11_35_11 rfl (by decide) (sx_16 hT) (rx_16_5 hR) ?_
    refine pv_callVq (pc := 22) dX11_restore_22 mgX4_takeFrom lv_X11_169_4 (by decide) (sx_21 hT) (by omega) (c_tk_21_23 hT hR (xi (w_i1 hW (by have f := h4; rw [xb.2.2.1] at f; first | exact f | exact Classical.not_not.mp f))) (by omega)) rfl rfl (by decide) (fun v t I L Rf hq => ?_)
    obtain ⟨rfl, rfl, rfl, hf, hx⟩ := hq
    refine pv_iconst (pc := 25) (v := 0) dX11_restore_25 (by decide) ?_
    refine pv_istore_1 (pc := 26) dX11_restore_26 (by decide) rfl ?_
    exact x_restl hW hX (w_i1 hW (by have f := h4; rw [xb.2.2.1] at f; first | exact f | exact Classical.not_not.mp f)) hf hx (by omega) 8 0 _ _ (by decide) (fun _ _ _ => rfl) (fun s _ q => absurd q (Nat.not_lt_zero _)) (fun s hs _ j => hf.1 _ j (by omega) (by omega))
  · refine pv_aload_0 (pc := 7) dX11_restore_7 ?_
    refine pv_bipush (pc := 8) (v := 6) dX11_restore_8 (by decide) ?_
    refine pv_callV1 (pc := 10) dX11_restore_10 mgX11_refuse lv_X11_70_11 (by decide) (sx_16 hT) (by omega) (c_X11_refuse (k := 6) hT hR (by decide) (by unfold vp_in; decide)) rfl rfl (by decide) ?_
    refine pv_iret (pc := 13) dX11_restore_13 rfl rfl ?_
    have f := h4; rw [xb.2.2.1] at f
    have f1 : J 0 6 = 0 := (by first | exact f | exact Classical.not_not.mp f)
    refine qX.ref hX k_l6 ?_; unfold S_restore; rw [if_neg (by rw [f1]; decide)]

