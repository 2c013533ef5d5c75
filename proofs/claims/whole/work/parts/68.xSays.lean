/-! the class: says -/
theorem pv_know {G : pv_G} {M : pv_Mth} {d mc ms bc bs pc : Nat} {Q : pv_Q} {ls st : List Value} {t : pv_T} {I : pv_I} {L : pv_L} {Rf : pv_R} (k : pv_X G t I → pv_V G M d mc ms Q bc bs pc ls st t I L Rf) : pv_V G M d mc ms Q bc bs pc ls st t I L Rf := by
  intro R p l e s m args below meth c Z H locs cells slots lsA C F P S hl h1 h2
  exact k P.2.2.1 R p l e s m args below meth c Z H locs cells slots lsA C F P S hl h1 h2
def x_un (k w : Int32) : Bool := decide (w = 0) || decide (w = k) || (decide (w = 1) && s_isC k) || (decide (w = 4) && s_isT k)
theorem x_un_iff {k w : Int32} : x_un k w = true ↔ (w = 0 ∨ w = k ∨ (w = 1 ∧ s_isC k = true) ∨ (w = 4 ∧ s_isT k = true)) := by
  simp only [x_un, Bool.or_eq_true, Bool.and_eq_true, decide_eq_true_eq, or_assoc]
theorem i_7 {w : Int32} (h : 0 ≤ w ∧ w ≤ 6) : w = 0 ∨ w = 1 ∨ w = 2 ∨ w = 3 ∨ w = 4 ∨ w = 5 ∨ w = 6 := by
  obtain ⟨h1, h2⟩ := h
  rw [i_le, Int32.toInt_zero] at h1
  rw [i_le, show (6 : Int32).toInt = 6 by decide] at h2
  have q : w.toInt = 0 ∨ w.toInt = 1 ∨ w.toInt = 2 ∨ w.toInt = 3 ∨ w.toInt = 4 ∨ w.toInt = 5 ∨ w.toInt = 6 := by omega
  rcases q with q | q | q | q | q | q | q
  · exact Or.inl (by rw [← Int32.toInt_inj, q]; decide)
  · exact Or.inr (Or.inl (by rw [← Int32.toInt_inj, q]; decide))
  · exact Or.inr (Or.inr (Or.inl (by rw [← Int32.toInt_inj, q]; decide)))
  · exact Or.inr (Or.inr (Or.inr (Or.inl (by rw [← Int32.toInt_inj, q]; decide))))
  · exact Or.inr (Or.inr (Or.inr (Or.inr (Or.inl (by rw [← Int32.toInt_inj, q]; decide)))))
  · exact Or.inr (Or.inr (Or.inr (Or.inr (Or.inr (Or.inl (by rw [← Int32.toInt_inj, q]; decide))))))
  · exact Or.inr (Or.inr (Or.inr (Or.inr (Or.inr (Or.inr ((by rw [← Int32.toInt_inj, q]; decide)))))))
set_option maxRecDepth 100000 in
set_option maxHeartbeats 4000000 in
theorem c_un_0_0 {G : pv_G} {d : Nat} {t : pv_T} {I : pv_I} {L : pv_L} {Rf : pv_R} (hd : 1 ≤ d) : pv_Mt G mX11_isUnder d 0 0 [.int 0, .int 0] t I L Rf (pv_is (some (.int (pv_b (x_un 0 0)))) t I L Rf) := by
  refine pv_mt mgX11_isUnder.2.2.2.2.2 [.int 0, .int 0, .retAddr 0, .retAddr 0] rfl (Nat.le_of_ble_eq_true rfl) ?_
  refine pv_know (fun hq => ?_)
  have hab : t.1 1 = some (.inl (.int, 7)) := (hq 1 (by decide)).1
  have hav : ∀ j, j < 7 → I 1 j = pv_above j := (hq 1 (by decide)).2 _ rfl
  refine pv_iload_0 (pc := 0) dX11_isUnder_0 ?_
  refine pv_istore_2 (pc := 1) dX11_isUnder_1 (by decide) rfl ?_
  refine pv_iconst (pc := 2) (v := 0) dX11_isUnder_2 (by decide) ?_
  refine pv_istore_3 (pc := 3) dX11_isUnder_3 (by decide) rfl ?_
  refine pv_iload_3 (pc := 4) dX11_isUnder_4 ?_
  refine pv_bipush (pc := 5) (v := 7) dX11_isUnder_5 (by decide) ?_
  refine pv_icmp_ge (pc := 7) (tgt := 34) dX11_isUnder_7 (by decide) (fun q => absurd q (by decide)) (fun _ => ?_)
  refine pv_iload_2 (pc := 10) dX11_isUnder_10 ?_
  refine pv_callS1 (pc := 11) dX11_isUnder_11 mgX11_isKind ls_X11_129 (by omega) (c_X11_isKind ) rfl rfl (by decide) ?_
  refine pv_topv2 (y := 1) (by decide) ?_
  refine pv_if_eq (pc := 14) (tgt := 34) dX11_isUnder_14 (by decide) (fun q => absurd q (by decide)) (fun _ => ?_)
  refine pv_iload_2 (pc := 17) dX11_isUnder_17 ?_
  refine pv_iload_1 (pc := 18) dX11_isUnder_18 ?_
  refine pv_icmp_eq (pc := 19) (tgt := 34) dX11_isUnder_19 (by decide) (fun _ => ?_) (fun q => absurd q (by decide))
  refine pv_iload_2 (pc := 34) dX11_isUnder_34 ?_
  refine pv_iload_1 (pc := 35) dX11_isUnder_35 ?_
  refine pv_icmp_ne (pc := 36) (tgt := 43) dX11_isUnder_36 (by decide) (fun q => absurd q (by decide)) (fun _ => ?_)
  refine pv_iconst (pc := 39) (v := 1) dX11_isUnder_39 (by decide) ?_
  refine pv_goto (pc := 40) (tgt := 44) dX11_isUnder_40 (by decide) ?_
  refine pv_iret (pc := 44) dX11_isUnder_44 rfl rfl ?_
  exact ⟨rfl, rfl, rfl, rfl, rfl⟩

set_option maxRecDepth 100000 in
set_option maxHeartbeats 4000000 in
theorem c_un_0_1 {G : pv_G} {d : Nat} {t : pv_T} {I : pv_I} {L : pv_L} {Rf : pv_R} (hd : 1 ≤ d) : pv_Mt G mX11_isUnder d 0 0 [.int 0, .int 1] t I L Rf (pv_is (some (.int (pv_b (x_un 0 1)))) t I L Rf) := by
  refine pv_mt mgX11_isUnder.2.2.2.2.2 [.int 0, .int 1, .retAddr 0, .retAddr 0] rfl (Nat.le_of_ble_eq_true rfl) ?_
  refine pv_know (fun hq => ?_)
  have hab : t.1 1 = some (.inl (.int, 7)) := (hq 1 (by decide)).1
  have hav : ∀ j, j < 7 → I 1 j = pv_above j := (hq 1 (by decide)).2 _ rfl
  refine pv_iload_0 (pc := 0) dX11_isUnder_0 ?_
  refine pv_istore_2 (pc := 1) dX11_isUnder_1 (by decide) rfl ?_
  refine pv_iconst (pc := 2) (v := 0) dX11_isUnder_2 (by decide) ?_
  refine pv_istore_3 (pc := 3) dX11_isUnder_3 (by decide) rfl ?_
  refine pv_iload_3 (pc := 4) dX11_isUnder_4 ?_
  refine pv_bipush (pc := 5) (v := 7) dX11_isUnder_5 (by decide) ?_
  refine pv_icmp_ge (pc := 7) (tgt := 34) dX11_isUnder_7 (by decide) (fun q => absurd q (by decide)) (fun _ => ?_)
  refine pv_iload_2 (pc := 10) dX11_isUnder_10 ?_
  refine pv_callS1 (pc := 11) dX11_isUnder_11 mgX11_isKind ls_X11_129 (by omega) (c_X11_isKind ) rfl rfl (by decide) ?_
  refine pv_topv2 (y := 1) (by decide) ?_
  refine pv_if_eq (pc := 14) (tgt := 34) dX11_isUnder_14 (by decide) (fun q => absurd q (by decide)) (fun _ => ?_)
  refine pv_iload_2 (pc := 17) dX11_isUnder_17 ?_
  refine pv_iload_1 (pc := 18) dX11_isUnder_18 ?_
  refine pv_icmp_eq (pc := 19) (tgt := 34) dX11_isUnder_19 (by decide) (fun q => absurd q (by decide)) (fun _ => ?_)
  refine pv_gsAbove (pc := 22) dX11_isUnder_22 sl_X11_345 ?_
  refine pv_iload_2 (pc := 25) dX11_isUnder_25 ?_
  refine pv_ialoadj (pc := 26) dX11_isUnder_26 hab (j := 0) (by decide) (by unfold vp_in; decide) ?_
  refine pv_topv2 (y := (-1)) (by rw [hav _ (by decide)]; decide) ?_
  refine pv_istore_2 (pc := 27) dX11_isUnder_27 (by decide) rfl ?_
  refine pv_iinc_3 (pc := 28) (v := 1) dX11_isUnder_28 (by decide) (by decide) rfl ?_
  refine pv_goto (pc := 31) (tgt := 4) dX11_isUnder_31 (by decide) ?_
  refine pv_iload_3 (pc := 4) dX11_isUnder_4 ?_
  refine pv_bipush (pc := 5) (v := 7) dX11_isUnder_5 (by decide) ?_
  refine pv_icmp_ge (pc := 7) (tgt := 34) dX11_isUnder_7 (by decide) (fun q => absurd q (by decide)) (fun _ => ?_)
  refine pv_iload_2 (pc := 10) dX11_isUnder_10 ?_
  refine pv_callS1 (pc := 11) dX11_isUnder_11 mgX11_isKind ls_X11_129 (by omega) (c_X11_isKind ) rfl rfl (by decide) ?_
  refine pv_topv2 (y := 0) (by decide) ?_
  refine pv_if_eq (pc := 14) (tgt := 34) dX11_isUnder_14 (by decide) (fun _ => ?_) (fun q => absurd q (by decide))
  refine pv_iload_2 (pc := 34) dX11_isUnder_34 ?_
  refine pv_iload_1 (pc := 35) dX11_isUnder_35 ?_
  refine pv_icmp_ne (pc := 36) (tgt := 43) dX11_isUnder_36 (by decide) (fun _ => ?_) (fun q => absurd q (by decide))
  refine pv_iconst (pc := 43) (v := 0) dX11_isUnder_43 (by decide) ?_
  refine pv_iret (pc := 44) dX11_isUnder_44 rfl rfl ?_
  exact ⟨rfl, rfl, rfl, rfl, rfl⟩

set_option maxRecDepth 100000 in
set_option maxHeartbeats 4000000 in
theorem c_un_0_2 {G : pv_G} {d : Nat} {t : pv_T} {I : pv_I} {L : pv_L} {Rf : pv_R} (hd : 1 ≤ d) : pv_Mt G mX11_isUnder d 0 0 [.int 0, .int 2] t I L Rf (pv_is (some (.int (pv_b (x_un 0 2)))) t I L Rf) := by
  refine pv_mt mgX11_isUnder.2.2.2.2.2 [.int 0, .int 2, .retAddr 0, .retAddr 0] rfl (Nat.le_of_ble_eq_true rfl) ?_
  refine pv_know (fun hq => ?_)
  have hab : t.1 1 = some (.inl (.int, 7)) := (hq 1 (by decide)).1
  have hav : ∀ j, j < 7 → I 1 j = pv_above j := (hq 1 (by decide)).2 _ rfl
  refine pv_iload_0 (pc := 0) dX11_isUnder_0 ?_
  refine pv_istore_2 (pc := 1) dX11_isUnder_1 (by decide) rfl ?_
  refine pv_iconst (pc := 2) (v := 0) dX11_isUnder_2 (by decide) ?_
  refine pv_istore_3 (pc := 3) dX11_isUnder_3 (by decide) rfl ?_
  refine pv_iload_3 (pc := 4) dX11_isUnder_4 ?_
  refine pv_bipush (pc := 5) (v := 7) dX11_isUnder_5 (by decide) ?_
  refine pv_icmp_ge (pc := 7) (tgt := 34) dX11_isUnder_7 (by decide) (fun q => absurd q (by decide)) (fun _ => ?_)
  refine pv_iload_2 (pc := 10) dX11_isUnder_10 ?_
  refine pv_callS1 (pc := 11) dX11_isUnder_11 mgX11_isKind ls_X11_129 (by omega) (c_X11_isKind ) rfl rfl (by decide) ?_
  refine pv_topv2 (y := 1) (by decide) ?_
  refine pv_if_eq (pc := 14) (tgt := 34) dX11_isUnder_14 (by decide) (fun q => absurd q (by decide)) (fun _ => ?_)
  refine pv_iload_2 (pc := 17) dX11_isUnder_17 ?_
  refine pv_iload_1 (pc := 18) dX11_isUnder_18 ?_
  refine pv_icmp_eq (pc := 19) (tgt := 34) dX11_isUnder_19 (by decide) (fun q => absurd q (by decide)) (fun _ => ?_)
  refine pv_gsAbove (pc := 22) dX11_isUnder_22 sl_X11_345 ?_
  refine pv_iload_2 (pc := 25) dX11_isUnder_25 ?_
  refine pv_ialoadj (pc := 26) dX11_isUnder_26 hab (j := 0) (by decide) (by unfold vp_in; decide) ?_
  refine pv_topv2 (y := (-1)) (by rw [hav _ (by decide)]; decide) ?_
  refine pv_istore_2 (pc := 27) dX11_isUnder_27 (by decide) rfl ?_
  refine pv_iinc_3 (pc := 28) (v := 1) dX11_isUnder_28 (by decide) (by decide) rfl ?_
  refine pv_goto (pc := 31) (tgt := 4) dX11_isUnder_31 (by decide) ?_
  refine pv_iload_3 (pc := 4) dX11_isUnder_4 ?_
  refine pv_bipush (pc := 5) (v := 7) dX11_isUnder_5 (by decide) ?_
  refine pv_icmp_ge (pc := 7) (tgt := 34) dX11_isUnder_7 (by decide) (fun q => absurd q (by decide)) (fun _ => ?_)
  refine pv_iload_2 (pc := 10) dX11_isUnder_10 ?_
  refine pv_callS1 (pc := 11) dX11_isUnder_11 mgX11_isKind ls_X11_129 (by omega) (c_X11_isKind ) rfl rfl (by decide) ?_
  refine pv_topv2 (y := 0) (by decide) ?_
  refine pv_if_eq (pc := 14) (tgt := 34) dX11_isUnder_14 (by decide) (fun _ => ?_) (fun q => absurd q (by decide))
  refine pv_iload_2 (pc := 34) dX11_isUnder_34 ?_
  refine pv_iload_1 (pc := 35) dX11_isUnder_35 ?_
  refine pv_icmp_ne (pc := 36) (tgt := 43) dX11_isUnder_36 (by decide) (fun _ => ?_) (fun q => absurd q (by decide))
  refine pv_iconst (pc := 43) (v := 0) dX11_isUnder_43 (by decide) ?_
  refine pv_iret (pc := 44) dX11_isUnder_44 rfl rfl ?_
  exact ⟨rfl, rfl, rfl, rfl, rfl⟩

set_option maxRecDepth 100000 in
set_option maxHeartbeats 4000000 in
theorem c_un_0_3 {G : pv_G} {d : Nat} {t : pv_T} {I : pv_I} {L : pv_L} {Rf : pv_R} (hd : 1 ≤ d) : pv_Mt G mX11_isUnder d 0 0 [.int 0, .int 3] t I L Rf (pv_is (some (.int (pv_b (x_un 0 3)))) t I L Rf) := by
  refine pv_mt mgX11_isUnder.2.2.2.2.2 [.int 0, .int 3, .retAddr 0, .retAddr 0] rfl (Nat.le_of_ble_eq_true rfl) ?_
  refine pv_know (fun hq => ?_)
  have hab : t.1 1 = some (.inl (.int, 7)) := (hq 1 (by decide)).1
  have hav : ∀ j, j < 7 → I 1 j = pv_above j := (hq 1 (by decide)).2 _ rfl
  refine pv_iload_0 (pc := 0) dX11_isUnder_0 ?_
  refine pv_istore_2 (pc := 1) dX11_isUnder_1 (by decide) rfl ?_
  refine pv_iconst (pc := 2) (v := 0) dX11_isUnder_2 (by decide) ?_
  refine pv_istore_3 (pc := 3) dX11_isUnder_3 (by decide) rfl ?_
  refine pv_iload_3 (pc := 4) dX11_isUnder_4 ?_
  refine pv_bipush (pc := 5) (v := 7) dX11_isUnder_5 (by decide) ?_
  refine pv_icmp_ge (pc := 7) (tgt := 34) dX11_isUnder_7 (by decide) (fun q => absurd q (by decide)) (fun _ => ?_)
  refine pv_iload_2 (pc := 10) dX11_isUnder_10 ?_
  refine pv_callS1 (pc := 11) dX11_isUnder_11 mgX11_isKind ls_X11_129 (by omega) (c_X11_isKind ) rfl rfl (by decide) ?_
  refine pv_topv2 (y := 1) (by decide) ?_
  refine pv_if_eq (pc := 14) (tgt := 34) dX11_isUnder_14 (by decide) (fun q => absurd q (by decide)) (fun _ => ?_)
  refine pv_iload_2 (pc := 17) dX11_isUnder_17 ?_
  refine pv_iload_1 (pc := 18) dX11_isUnder_18 ?_
  refine pv_icmp_eq (pc := 19) (tgt := 34) dX11_isUnder_19 (by decide) (fun q => absurd q (by decide)) (fun _ => ?_)
  refine pv_gsAbove (pc := 22) dX11_isUnder_22 sl_X11_345 ?_
  refine pv_iload_2 (pc := 25) dX11_isUnder_25 ?_
  refine pv_ialoadj (pc := 26) dX11_isUnder_26 hab (j := 0) (by decide) (by unfold vp_in; decide) ?_
  refine pv_topv2 (y := (-1)) (by rw [hav _ (by decide)]; decide) ?_
  refine pv_istore_2 (pc := 27) dX11_isUnder_27 (by decide) rfl ?_
  refine pv_iinc_3 (pc := 28) (v := 1) dX11_isUnder_28 (by decide) (by decide) rfl ?_
  refine pv_goto (pc := 31) (tgt := 4) dX11_isUnder_31 (by decide) ?_
  refine pv_iload_3 (pc := 4) dX11_isUnder_4 ?_
  refine pv_bipush (pc := 5) (v := 7) dX11_isUnder_5 (by decide) ?_
  refine pv_icmp_ge (pc := 7) (tgt := 34) dX11_isUnder_7 (by decide) (fun q => absurd q (by decide)) (fun _ => ?_)
  refine pv_iload_2 (pc := 10) dX11_isUnder_10 ?_
  refine pv_callS1 (pc := 11) dX11_isUnder_11 mgX11_isKind ls_X11_129 (by omega) (c_X11_isKind ) rfl rfl (by decide) ?_
  refine pv_topv2 (y := 0) (by decide) ?_
  refine pv_if_eq (pc := 14) (tgt := 34) dX11_isUnder_14 (by decide) (fun _ => ?_) (fun q => absurd q (by decide))
  refine pv_iload_2 (pc := 34) dX11_isUnder_34 ?_
  refine pv_iload_1 (pc := 35) dX11_isUnder_35 ?_
  refine pv_icmp_ne (pc := 36) (tgt := 43) dX11_isUnder_36 (by decide) (fun _ => ?_) (fun q => absurd q (by decide))
  refine pv_iconst (pc := 43) (v := 0) dX11_isUnder_43 (by decide) ?_
  refine pv_iret (pc := 44) dX11_isUnder_44 rfl rfl ?_
  exact ⟨rfl, rfl, rfl, rfl, rfl⟩

set_option maxRecDepth 100000 in
set_option maxHeartbeats 4000000 in
theorem c_un_0_4 {G : pv_G} {d : Nat} {t : pv_T} {I : pv_I} {L : pv_L} {Rf : pv_R} (hd : 1 ≤ d) : pv_Mt G mX11_isUnder d 0 0 [.int 0, .int 4] t I L Rf (pv_is (some (.int (pv_b (x_un 0 4)))) t I L Rf) := by
  refine pv_mt mgX11_isUnder.2.2.2.2.2 [.int 0, .int 4, .retAddr 0, .retAddr 0] rfl (Nat.le_of_ble_eq_true rfl) ?_
  refine pv_know (fun hq => ?_)
  have hab : t.1 1 = some (.inl (.int, 7)) := (hq 1 (by decide)).1
  have hav : ∀ j, j < 7 → I 1 j = pv_above j := (hq 1 (by decide)).2 _ rfl
  refine pv_iload_0 (pc := 0) dX11_isUnder_0 ?_
  refine pv_istore_2 (pc := 1) dX11_isUnder_1 (by decide) rfl ?_
  refine pv_iconst (pc := 2) (v := 0) dX11_isUnder_2 (by decide) ?_
  refine pv_istore_3 (pc := 3) dX11_isUnder_3 (by decide) rfl ?_
  refine pv_iload_3 (pc := 4) dX11_isUnder_4 ?_
  refine pv_bipush (pc := 5) (v := 7) dX11_isUnder_5 (by decide) ?_
  refine pv_icmp_ge (pc := 7) (tgt := 34) dX11_isUnder_7 (by decide) (fun q => absurd q (by decide)) (fun _ => ?_)
  refine pv_iload_2 (pc := 10) dX11_isUnder_10 ?_
  refine pv_callS1 (pc := 11) dX11_isUnder_11 mgX11_isKind ls_X11_129 (by omega) (c_X11_isKind ) rfl rfl (by decide) ?_
  refine pv_topv2 (y := 1) (by decide) ?_
  refine pv_if_eq (pc := 14) (tgt := 34) dX11_isUnder_14 (by decide) (fun q => absurd q (by decide)) (fun _ => ?_)
  refine pv_iload_2 (pc := 17) dX11_isUnder_17 ?_
  refine pv_iload_1 (pc := 18) dX11_isUnder_18 ?_
  refine pv_icmp_eq (pc := 19) (tgt := 34) dX11_isUnder_19 (by decide) (fun q => absurd q (by decide)) (fun _ => ?_)
  refine pv_gsAbove (pc := 22) dX11_isUnder_22 sl_X11_345 ?_
  refine pv_iload_2 (pc := 25) dX11_isUnder_25 ?_
  refine pv_ialoadj (pc := 26) dX11_isUnder_26 hab (j := 0) (by decide) (by unfold vp_in; decide) ?_
  refine pv_topv2 (y := (-1)) (by rw [hav _ (by decide)]; decide) ?_
  refine pv_istore_2 (pc := 27) dX11_isUnder_27 (by decide) rfl ?_
  refine pv_iinc_3 (pc := 28) (v := 1) dX11_isUnder_28 (by decide) (by decide) rfl ?_
  refine pv_goto (pc := 31) (tgt := 4) dX11_isUnder_31 (by decide) ?_
  refine pv_iload_3 (pc := 4) dX11_isUnder_4 ?_
  refine pv_bipush (pc := 5) (v := 7) dX11_isUnder_5 (by decide) ?_
  refine pv_icmp_ge (pc := 7) (tgt := 34) dX11_isUnder_7 (by decide) (fun q => absurd q (by decide)) (fun _ => ?_)
  refine pv_iload_2 (pc := 10) dX11_isUnder_10 ?_
  refine pv_callS1 (pc := 11) dX11_isUnder_11 mgX11_isKind ls_X11_129 (by omega) (c_X11_isKind ) rfl rfl (by decide) ?_
  refine pv_topv2 (y := 0) (by decide) ?_
  refine pv_if_eq (pc := 14) (tgt := 34) dX11_isUnder_14 (by decide) (fun _ => ?_) (fun q => absurd q (by decide))
  refine pv_iload_2 (pc := 34) dX11_isUnder_34 ?_
  refine pv_iload_1 (pc := 35) dX11_isUnder_35 ?_
  refine pv_icmp_ne (pc := 36) (tgt := 43) dX11_isUnder_36 (by decide) (fun _ => ?_) (fun q => absurd q (by decide))
  refine pv_iconst (pc := 43) (v := 0) dX11_isUnder_43 (by decide) ?_
  refine pv_iret (pc := 44) dX11_isUnder_44 rfl rfl ?_
  exact ⟨rfl, rfl, rfl, rfl, rfl⟩

set_option maxRecDepth 100000 in
set_option maxHeartbeats 4000000 in
theorem c_un_0_5 {G : pv_G} {d : Nat} {t : pv_T} {I : pv_I} {L : pv_L} {Rf : pv_R} (hd : 1 ≤ d) : pv_Mt G mX11_isUnder d 0 0 [.int 0, .int 5] t I L Rf (pv_is (some (.int (pv_b (x_un 0 5)))) t I L Rf) := by
  refine pv_mt mgX11_isUnder.2.2.2.2.2 [.int 0, .int 5, .retAddr 0, .retAddr 0] rfl (Nat.le_of_ble_eq_true rfl) ?_
  refine pv_know (fun hq => ?_)
  have hab : t.1 1 = some (.inl (.int, 7)) := (hq 1 (by decide)).1
  have hav : ∀ j, j < 7 → I 1 j = pv_above j := (hq 1 (by decide)).2 _ rfl
  refine pv_iload_0 (pc := 0) dX11_isUnder_0 ?_
  refine pv_istore_2 (pc := 1) dX11_isUnder_1 (by decide) rfl ?_
  refine pv_iconst (pc := 2) (v := 0) dX11_isUnder_2 (by decide) ?_
  refine pv_istore_3 (pc := 3) dX11_isUnder_3 (by decide) rfl ?_
  refine pv_iload_3 (pc := 4) dX11_isUnder_4 ?_
  refine pv_bipush (pc := 5) (v := 7) dX11_isUnder_5 (by decide) ?_
  refine pv_icmp_ge (pc := 7) (tgt := 34) dX11_isUnder_7 (by decide) (fun q => absurd q (by decide)) (fun _ => ?_)
  refine pv_iload_2 (pc := 10) dX11_isUnder_10 ?_
  refine pv_callS1 (pc := 11) dX11_isUnder_11 mgX11_isKind ls_X11_129 (by omega) (c_X11_isKind ) rfl rfl (by decide) ?_
  refine pv_topv2 (y := 1) (by decide) ?_
  refine pv_if_eq (pc := 14) (tgt := 34) dX11_isUnder_14 (by decide) (fun q => absurd q (by decide)) (fun _ => ?_)
  refine pv_iload_2 (pc := 17) dX11_isUnder_17 ?_
  refine pv_iload_1 (pc := 18) dX11_isUnder_18 ?_
  refine pv_icmp_eq (pc := 19) (tgt := 34) dX11_isUnder_19 (by decide) (fun q => absurd q (by decide)) (fun _ => ?_)
  refine pv_gsAbove (pc := 22) dX11_isUnder_22 sl_X11_345 ?_
  refine pv_iload_2 (pc := 25) dX11_isUnder_25 ?_
  refine pv_ialoadj (pc := 26) dX11_isUnder_26 hab (j := 0) (by decide) (by unfold vp_in; decide) ?_
  refine pv_topv2 (y := (-1)) (by rw [hav _ (by decide)]; decide) ?_
  refine pv_istore_2 (pc := 27) dX11_isUnder_27 (by decide) rfl ?_
  refine pv_iinc_3 (pc := 28) (v := 1) dX11_isUnder_28 (by decide) (by decide) rfl ?_
  refine pv_goto (pc := 31) (tgt := 4) dX11_isUnder_31 (by decide) ?_
  refine pv_iload_3 (pc := 4) dX11_isUnder_4 ?_
  refine pv_bipush (pc := 5) (v := 7) dX11_isUnder_5 (by decide) ?_
  refine pv_icmp_ge (pc := 7) (tgt := 34) dX11_isUnder_7 (by decide) (fun q => absurd q (by decide)) (fun _ => ?_)
  refine pv_iload_2 (pc := 10) dX11_isUnder_10 ?_
  refine pv_callS1 (pc := 11) dX11_isUnder_11 mgX11_isKind ls_X11_129 (by omega) (c_X11_isKind ) rfl rfl (by decide) ?_
  refine pv_topv2 (y := 0) (by decide) ?_
  refine pv_if_eq (pc := 14) (tgt := 34) dX11_isUnder_14 (by decide) (fun _ => ?_) (fun q => absurd q (by decide))
  refine pv_iload_2 (pc := 34) dX11_isUnder_34 ?_
  refine pv_iload_1 (pc := 35) dX11_isUnder_35 ?_
  refine pv_icmp_ne (pc := 36) (tgt := 43) dX11_isUnder_36 (by decide) (fun _ => ?_) (fun q => absurd q (by decide))
  refine pv_iconst (pc := 43) (v := 0) dX11_isUnder_43 (by decide) ?_
  refine pv_iret (pc := 44) dX11_isUnder_44 rfl rfl ?_
  exact ⟨rfl, rfl, rfl, rfl, rfl⟩

set_option maxRecDepth 100000 in
set_option maxHeartbeats 4000000 in
theorem c_un_0_6 {G : pv_G} {d : Nat} {t : pv_T} {I : pv_I} {L : pv_L} {Rf : pv_R} (hd : 1 ≤ d) : pv_Mt G mX11_isUnder d 0 0 [.int 0, .int 6] t I L Rf (pv_is (some (.int (pv_b (x_un 0 6)))) t I L Rf) := by
  refine pv_mt mgX11_isUnder.2.2.2.2.2 [.int 0, .int 6, .retAddr 0, .retAddr 0] rfl (Nat.le_of_ble_eq_true rfl) ?_
  refine pv_know (fun hq => ?_)
  have hab : t.1 1 = some (.inl (.int, 7)) := (hq 1 (by decide)).1
  have hav : ∀ j, j < 7 → I 1 j = pv_above j := (hq 1 (by decide)).2 _ rfl
  refine pv_iload_0 (pc := 0) dX11_isUnder_0 ?_
  refine pv_istore_2 (pc := 1) dX11_isUnder_1 (by decide) rfl ?_
  refine pv_iconst (pc := 2) (v := 0) dX11_isUnder_2 (by decide) ?_
  refine pv_istore_3 (pc := 3) dX11_isUnder_3 (by decide) rfl ?_
  refine pv_iload_3 (pc := 4) dX11_isUnder_4 ?_
  refine pv_bipush (pc := 5) (v := 7) dX11_isUnder_5 (by decide) ?_
  refine pv_icmp_ge (pc := 7) (tgt := 34) dX11_isUnder_7 (by decide) (fun q => absurd q (by decide)) (fun _ => ?_)
  refine pv_iload_2 (pc := 10) dX11_isUnder_10 ?_
  refine pv_callS1 (pc := 11) dX11_isUnder_11 mgX11_isKind ls_X11_129 (by omega) (c_X11_isKind ) rfl rfl (by decide) ?_
  refine pv_topv2 (y := 1) (by decide) ?_
  refine pv_if_eq (pc := 14) (tgt := 34) dX11_isUnder_14 (by decide) (fun q => absurd q (by decide)) (fun _ => ?_)
  refine pv_iload_2 (pc := 17) dX11_isUnder_17 ?_
  refine pv_iload_1 (pc := 18) dX11_isUnder_18 ?_
  refine pv_icmp_eq (pc := 19) (tgt := 34) dX11_isUnder_19 (by decide) (fun q => absurd q (by decide)) (fun _ => ?_)
  refine pv_gsAbove (pc := 22) dX11_isUnder_22 sl_X11_345 ?_
  refine pv_iload_2 (pc := 25) dX11_isUnder_25 ?_
  refine pv_ialoadj (pc := 26) dX11_isUnder_26 hab (j := 0) (by decide) (by unfold vp_in; decide) ?_
  refine pv_topv2 (y := (-1)) (by rw [hav _ (by decide)]; decide) ?_
  refine pv_istore_2 (pc := 27) dX11_isUnder_27 (by decide) rfl ?_
  refine pv_iinc_3 (pc := 28) (v := 1) dX11_isUnder_28 (by decide) (by decide) rfl ?_
  refine pv_goto (pc := 31) (tgt := 4) dX11_isUnder_31 (by decide) ?_
  refine pv_iload_3 (pc := 4) dX11_isUnder_4 ?_
  refine pv_bipush (pc := 5) (v := 7) dX11_isUnder_5 (by decide) ?_
  refine pv_icmp_ge (pc := 7) (tgt := 34) dX11_isUnder_7 (by decide) (fun q => absurd q (by decide)) (fun _ => ?_)
  refine pv_iload_2 (pc := 10) dX11_isUnder_10 ?_
  refine pv_callS1 (pc := 11) dX11_isUnder_11 mgX11_isKind ls_X11_129 (by omega) (c_X11_isKind ) rfl rfl (by decide) ?_
  refine pv_topv2 (y := 0) (by decide) ?_
  refine pv_if_eq (pc := 14) (tgt := 34) dX11_isUnder_14 (by decide) (fun _ => ?_) (fun q => absurd q (by decide))
  refine pv_iload_2 (pc := 34) dX11_isUnder_34 ?_
  refine pv_iload_1 (pc := 35) dX11_isUnder_35 ?_
  refine pv_icmp_ne (pc := 36) (tgt := 43) dX11_isUnder_36 (by decide) (fun _ => ?_) (fun q => absurd q (by decide))
  refine pv_iconst (pc := 43) (v := 0) dX11_isUnder_43 (by decide) ?_
  refine pv_iret (pc := 44) dX11_isUnder_44 rfl rfl ?_
  exact ⟨rfl, rfl, rfl, rfl, rfl⟩

set_option maxRecDepth 100000 in
set_option maxHeartbeats 4000000 in
theorem c_un_1_0 {G : pv_G} {d : Nat} {t : pv_T} {I : pv_I} {L : pv_L} {Rf : pv_R} (hd : 1 ≤ d) : pv_Mt G mX11_isUnder d 0 0 [.int 1, .int 0] t I L Rf (pv_is (some (.int (pv_b (x_un 1 0)))) t I L Rf) := by
  refine pv_mt mgX11_isUnder.2.2.2.2.2 [.int 1, .int 0, .retAddr 0, .retAddr 0] rfl (Nat.le_of_ble_eq_true rfl) ?_
  refine pv_know (fun hq => ?_)
  have hab : t.1 1 = some (.inl (.int, 7)) := (hq 1 (by decide)).1
  have hav : ∀ j, j < 7 → I 1 j = pv_above j := (hq 1 (by decide)).2 _ rfl
  refine pv_iload_0 (pc := 0) dX11_isUnder_0 ?_
  refine pv_istore_2 (pc := 1) dX11_isUnder_1 (by decide) rfl ?_
  refine pv_iconst (pc := 2) (v := 0) dX11_isUnder_2 (by decide) ?_
  refine pv_istore_3 (pc := 3) dX11_isUnder_3 (by decide) rfl ?_
  refine pv_iload_3 (pc := 4) dX11_isUnder_4 ?_
  refine pv_bipush (pc := 5) (v := 7) dX11_isUnder_5 (by decide) ?_
  refine pv_icmp_ge (pc := 7) (tgt := 34) dX11_isUnder_7 (by decide) (fun q => absurd q (by decide)) (fun _ => ?_)
  refine pv_iload_2 (pc := 10) dX11_isUnder_10 ?_
  refine pv_callS1 (pc := 11) dX11_isUnder_11 mgX11_isKind ls_X11_129 (by omega) (c_X11_isKind ) rfl rfl (by decide) ?_
  refine pv_topv2 (y := 1) (by decide) ?_
  refine pv_if_eq (pc := 14) (tgt := 34) dX11_isUnder_14 (by decide) (fun q => absurd q (by decide)) (fun _ => ?_)
  refine pv_iload_2 (pc := 17) dX11_isUnder_17 ?_
  refine pv_iload_1 (pc := 18) dX11_isUnder_18 ?_
  refine pv_icmp_eq (pc := 19) (tgt := 34) dX11_isUnder_19 (by decide) (fun q => absurd q (by decide)) (fun _ => ?_)
  refine pv_gsAbove (pc := 22) dX11_isUnder_22 sl_X11_345 ?_
  refine pv_iload_2 (pc := 25) dX11_isUnder_25 ?_
  refine pv_ialoadj (pc := 26) dX11_isUnder_26 hab (j := 1) (by decide) (by unfold vp_in; decide) ?_
  refine pv_topv2 (y := 0) (by rw [hav _ (by decide)]; decide) ?_
  refine pv_istore_2 (pc := 27) dX11_isUnder_27 (by decide) rfl ?_
  refine pv_iinc_3 (pc := 28) (v := 1) dX11_isUnder_28 (by decide) (by decide) rfl ?_
  refine pv_goto (pc := 31) (tgt := 4) dX11_isUnder_31 (by decide) ?_
  refine pv_iload_3 (pc := 4) dX11_isUnder_4 ?_
  refine pv_bipush (pc := 5) (v := 7) dX11_isUnder_5 (by decide) ?_
  refine pv_icmp_ge (pc := 7) (tgt := 34) dX11_isUnder_7 (by decide) (fun q => absurd q (by decide)) (fun _ => ?_)
  refine pv_iload_2 (pc := 10) dX11_isUnder_10 ?_
  refine pv_callS1 (pc := 11) dX11_isUnder_11 mgX11_isKind ls_X11_129 (by omega) (c_X11_isKind ) rfl rfl (by decide) ?_
  refine pv_topv2 (y := 1) (by decide) ?_
  refine pv_if_eq (pc := 14) (tgt := 34) dX11_isUnder_14 (by decide) (fun q => absurd q (by decide)) (fun _ => ?_)
  refine pv_iload_2 (pc := 17) dX11_isUnder_17 ?_
  refine pv_iload_1 (pc := 18) dX11_isUnder_18 ?_
  refine pv_icmp_eq (pc := 19) (tgt := 34) dX11_isUnder_19 (by decide) (fun _ => ?_) (fun q => absurd q (by decide))
  refine pv_iload_2 (pc := 34) dX11_isUnder_34 ?_
  refine pv_iload_1 (pc := 35) dX11_isUnder_35 ?_
  refine pv_icmp_ne (pc := 36) (tgt := 43) dX11_isUnder_36 (by decide) (fun q => absurd q (by decide)) (fun _ => ?_)
  refine pv_iconst (pc := 39) (v := 1) dX11_isUnder_39 (by decide) ?_
  refine pv_goto (pc := 40) (tgt := 44) dX11_isUnder_40 (by decide) ?_
  refine pv_iret (pc := 44) dX11_isUnder_44 rfl rfl ?_
  exact ⟨rfl, rfl, rfl, rfl, rfl⟩

set_option maxRecDepth 100000 in
set_option maxHeartbeats 4000000 in
theorem c_un_1_1 {G : pv_G} {d : Nat} {t : pv_T} {I : pv_I} {L : pv_L} {Rf : pv_R} (hd : 1 ≤ d) : pv_Mt G mX11_isUnder d 0 0 [.int 1, .int 1] t I L Rf (pv_is (some (.int (pv_b (x_un 1 1)))) t I L Rf) := by
  refine pv_mt mgX11_isUnder.2.2.2.2.2 [.int 1, .int 1, .retAddr 0, .retAddr 0] rfl (Nat.le_of_ble_eq_true rfl) ?_
  refine pv_know (fun hq => ?_)
  have hab : t.1 1 = some (.inl (.int, 7)) := (hq 1 (by decide)).1
  have hav : ∀ j, j < 7 → I 1 j = pv_above j := (hq 1 (by decide)).2 _ rfl
  refine pv_iload_0 (pc := 0) dX11_isUnder_0 ?_
  refine pv_istore_2 (pc := 1) dX11_isUnder_1 (by decide) rfl ?_
  refine pv_iconst (pc := 2) (v := 0) dX11_isUnder_2 (by decide) ?_
  refine pv_istore_3 (pc := 3) dX11_isUnder_3 (by decide) rfl ?_
  refine pv_iload_3 (pc := 4) dX11_isUnder_4 ?_
  refine pv_bipush (pc := 5) (v := 7) dX11_isUnder_5 (by decide) ?_
  refine pv_icmp_ge (pc := 7) (tgt := 34) dX11_isUnder_7 (by decide) (fun q => absurd q (by decide)) (fun _ => ?_)
  refine pv_iload_2 (pc := 10) dX11_isUnder_10 ?_
  refine pv_callS1 (pc := 11) dX11_isUnder_11 mgX11_isKind ls_X11_129 (by omega) (c_X11_isKind ) rfl rfl (by decide) ?_
  refine pv_topv2 (y := 1) (by decide) ?_
  refine pv_if_eq (pc := 14) (tgt := 34) dX11_isUnder_14 (by decide) (fun q => absurd q (by decide)) (fun _ => ?_)
  refine pv_iload_2 (pc := 17) dX11_isUnder_17 ?_
  refine pv_iload_1 (pc := 18) dX11_isUnder_18 ?_
  refine pv_icmp_eq (pc := 19) (tgt := 34) dX11_isUnder_19 (by decide) (fun _ => ?_) (fun q => absurd q (by decide))
  refine pv_iload_2 (pc := 34) dX11_isUnder_34 ?_
  refine pv_iload_1 (pc := 35) dX11_isUnder_35 ?_
  refine pv_icmp_ne (pc := 36) (tgt := 43) dX11_isUnder_36 (by decide) (fun q => absurd q (by decide)) (fun _ => ?_)
  refine pv_iconst (pc := 39) (v := 1) dX11_isUnder_39 (by decide) ?_
  refine pv_goto (pc := 40) (tgt := 44) dX11_isUnder_40 (by decide) ?_
  refine pv_iret (pc := 44) dX11_isUnder_44 rfl rfl ?_
  exact ⟨rfl, rfl, rfl, rfl, rfl⟩

set_option maxRecDepth 100000 in
set_option maxHeartbeats 4000000 in
theorem c_un_1_2 {G : pv_G} {d : Nat} {t : pv_T} {I : pv_I} {L : pv_L} {Rf : pv_R} (hd : 1 ≤ d) : pv_Mt G mX11_isUnder d 0 0 [.int 1, .int 2] t I L Rf (pv_is (some (.int (pv_b (x_un 1 2)))) t I L Rf) := by
  refine pv_mt mgX11_isUnder.2.2.2.2.2 [.int 1, .int 2, .retAddr 0, .retAddr 0] rfl (Nat.le_of_ble_eq_true rfl) ?_
  refine pv_know (fun hq => ?_)
  have hab : t.1 1 = some (.inl (.int, 7)) := (hq 1 (by decide)).1
  have hav : ∀ j, j < 7 → I 1 j = pv_above j := (hq 1 (by decide)).2 _ rfl
  refine pv_iload_0 (pc := 0) dX11_isUnder_0 ?_
  refine pv_istore_2 (pc := 1) dX11_isUnder_1 (by decide) rfl ?_
  refine pv_iconst (pc := 2) (v := 0) dX11_isUnder_2 (by decide) ?_
  refine pv_istore_3 (pc := 3) dX11_isUnder_3 (by decide) rfl ?_
  refine pv_iload_3 (pc := 4) dX11_isUnder_4 ?_
  refine pv_bipush (pc := 5) (v := 7) dX11_isUnder_5 (by decide) ?_
  refine pv_icmp_ge (pc := 7) (tgt := 34) dX11_isUnder_7 (by decide) (fun q => absurd q (by decide)) (fun _ => ?_)
  refine pv_iload_2 (pc := 10) dX11_isUnder_10 ?_
  refine pv_callS1 (pc := 11) dX11_isUnder_11 mgX11_isKind ls_X11_129 (by omega) (c_X11_isKind ) rfl rfl (by decide) ?_
  refine pv_topv2 (y := 1) (by decide) ?_
  refine pv_if_eq (pc := 14) (tgt := 34) dX11_isUnder_14 (by decide) (fun q => absurd q (by decide)) (fun _ => ?_)
  refine pv_iload_2 (pc := 17) dX11_isUnder_17 ?_
  refine pv_iload_1 (pc := 18) dX11_isUnder_18 ?_
  refine pv_icmp_eq (pc := 19) (tgt := 34) dX11_isUnder_19 (by decide) (fun q => absurd q (by decide)) (fun _ => ?_)
  refine pv_gsAbove (pc := 22) dX11_isUnder_22 sl_X11_345 ?_
  refine pv_iload_2 (pc := 25) dX11_isUnder_25 ?_
  refine pv_ialoadj (pc := 26) dX11_isUnder_26 hab (j := 1) (by decide) (by unfold vp_in; decide) ?_
  refine pv_topv2 (y := 0) (by rw [hav _ (by decide)]; decide) ?_
  refine pv_istore_2 (pc := 27) dX11_isUnder_27 (by decide) rfl ?_
  refine pv_iinc_3 (pc := 28) (v := 1) dX11_isUnder_28 (by decide) (by decide) rfl ?_
  refine pv_goto (pc := 31) (tgt := 4) dX11_isUnder_31 (by decide) ?_
  refine pv_iload_3 (pc := 4) dX11_isUnder_4 ?_
  refine pv_bipush (pc := 5) (v := 7) dX11_isUnder_5 (by decide) ?_
  refine pv_icmp_ge (pc := 7) (tgt := 34) dX11_isUnder_7 (by decide) (fun q => absurd q (by decide)) (fun _ => ?_)
  refine pv_iload_2 (pc := 10) dX11_isUnder_10 ?_
  refine pv_callS1 (pc := 11) dX11_isUnder_11 mgX11_isKind ls_X11_129 (by omega) (c_X11_isKind ) rfl rfl (by decide) ?_
  refine pv_topv2 (y := 1) (by decide) ?_
  refine pv_if_eq (pc := 14) (tgt := 34) dX11_isUnder_14 (by decide) (fun q => absurd q (by decide)) (fun _ => ?_)
  refine pv_iload_2 (pc := 17) dX11_isUnder_17 ?_
  refine pv_iload_1 (pc := 18) dX11_isUnder_18 ?_
  refine pv_icmp_eq (pc := 19) (tgt := 34) dX11_isUnder_19 (by decide) (fun q => absurd q (by decide)) (fun _ => ?_)
  refine pv_gsAbove (pc := 22) dX11_isUnder_22 sl_X11_345 ?_
  refine pv_iload_2 (pc := 25) dX11_isUnder_25 ?_
  refine pv_ialoadj (pc := 26) dX11_isUnder_26 hab (j := 0) (by decide) (by unfold vp_in; decide) ?_
  refine pv_topv2 (y := (-1)) (by rw [hav _ (by decide)]; decide) ?_
  refine pv_istore_2 (pc := 27) dX11_isUnder_27 (by decide) rfl ?_
  refine pv_iinc_3 (pc := 28) (v := 2) dX11_isUnder_28 (by decide) (by decide) rfl ?_
  refine pv_goto (pc := 31) (tgt := 4) dX11_isUnder_31 (by decide) ?_
  refine pv_iload_3 (pc := 4) dX11_isUnder_4 ?_
  refine pv_bipush (pc := 5) (v := 7) dX11_isUnder_5 (by decide) ?_
  refine pv_icmp_ge (pc := 7) (tgt := 34) dX11_isUnder_7 (by decide) (fun q => absurd q (by decide)) (fun _ => ?_)
  refine pv_iload_2 (pc := 10) dX11_isUnder_10 ?_
  refine pv_callS1 (pc := 11) dX11_isUnder_11 mgX11_isKind ls_X11_129 (by omega) (c_X11_isKind ) rfl rfl (by decide) ?_
  refine pv_topv2 (y := 0) (by decide) ?_
  refine pv_if_eq (pc := 14) (tgt := 34) dX11_isUnder_14 (by decide) (fun _ => ?_) (fun q => absurd q (by decide))
  refine pv_iload_2 (pc := 34) dX11_isUnder_34 ?_
  refine pv_iload_1 (pc := 35) dX11_isUnder_35 ?_
  refine pv_icmp_ne (pc := 36) (tgt := 43) dX11_isUnder_36 (by decide) (fun _ => ?_) (fun q => absurd q (by decide))
  refine pv_iconst (pc := 43) (v := 0) dX11_isUnder_43 (by decide) ?_
  refine pv_iret (pc := 44) dX11_isUnder_44 rfl rfl ?_
  exact ⟨rfl, rfl, rfl, rfl, rfl⟩

set_option maxRecDepth 100000 in
set_option maxHeartbeats 4000000 in
theorem c_un_1_3 {G : pv_G} {d : Nat} {t : pv_T} {I : pv_I} {L : pv_L} {Rf : pv_R} (hd : 1 ≤ d) : pv_Mt G mX11_isUnder d 0 0 [.int 1, .int 3] t I L Rf (pv_is (some (.int (pv_b (x_un 1 3)))) t I L Rf) := by
  refine pv_mt mgX11_isUnder.2.2.2.2.2 [.int 1, .int 3, .retAddr 0, .retAddr 0] rfl (Nat.le_of_ble_eq_true rfl) ?_
  refine pv_know (fun hq => ?_)
  have hab : t.1 1 = some (.inl (.int, 7)) := (hq 1 (by decide)).1
  have hav : ∀ j, j < 7 → I 1 j = pv_above j := (hq 1 (by decide)).2 _ rfl
  refine pv_iload_0 (pc := 0) dX11_isUnder_0 ?_
  refine pv_istore_2 (pc := 1) dX11_isUnder_1 (by decide) rfl ?_
  refine pv_iconst (pc := 2) (v := 0) dX11_isUnder_2 (by decide) ?_
  refine pv_istore_3 (pc := 3) dX11_isUnder_3 (by decide) rfl ?_
  refine pv_iload_3 (pc := 4) dX11_isUnder_4 ?_
  refine pv_bipush (pc := 5) (v := 7) dX11_isUnder_5 (by decide) ?_
  refine pv_icmp_ge (pc := 7) (tgt := 34) dX11_isUnder_7 (by decide) (fun q => absurd q (by decide)) (fun _ => ?_)
  refine pv_iload_2 (pc := 10) dX11_isUnder_10 ?_
  refine pv_callS1 (pc := 11) dX11_isUnder_11 mgX11_isKind ls_X11_129 (by omega) (c_X11_isKind ) rfl rfl (by decide) ?_
  refine pv_topv2 (y := 1) (by decide) ?_
  refine pv_if_eq (pc := 14) (tgt := 34) dX11_isUnder_14 (by decide) (fun q => absurd q (by decide)) (fun _ => ?_)
  refine pv_iload_2 (pc := 17) dX11_isUnder_17 ?_
  refine pv_iload_1 (pc := 18) dX11_isUnder_18 ?_
  refine pv_icmp_eq (pc := 19) (tgt := 34) dX11_isUnder_19 (by decide) (fun q => absurd q (by decide)) (fun _ => ?_)
  refine pv_gsAbove (pc := 22) dX11_isUnder_22 sl_X11_345 ?_
  refine pv_iload_2 (pc := 25) dX11_isUnder_25 ?_
  refine pv_ialoadj (pc := 26) dX11_isUnder_26 hab (j := 1) (by decide) (by unfold vp_in; decide) ?_
  refine pv_topv2 (y := 0) (by rw [hav _ (by decide)]; decide) ?_
  refine pv_istore_2 (pc := 27) dX11_isUnder_27 (by decide) rfl ?_
  refine pv_iinc_3 (pc := 28) (v := 1) dX11_isUnder_28 (by decide) (by decide) rfl ?_
  refine pv_goto (pc := 31) (tgt := 4) dX11_isUnder_31 (by decide) ?_
  refine pv_iload_3 (pc := 4) dX11_isUnder_4 ?_
  refine pv_bipush (pc := 5) (v := 7) dX11_isUnder_5 (by decide) ?_
  refine pv_icmp_ge (pc := 7) (tgt := 34) dX11_isUnder_7 (by decide) (fun q => absurd q (by decide)) (fun _ => ?_)
  refine pv_iload_2 (pc := 10) dX11_isUnder_10 ?_
  refine pv_callS1 (pc := 11) dX11_isUnder_11 mgX11_isKind ls_X11_129 (by omega) (c_X11_isKind ) rfl rfl (by decide) ?_
  refine pv_topv2 (y := 1) (by decide) ?_
  refine pv_if_eq (pc := 14) (tgt := 34) dX11_isUnder_14 (by decide) (fun q => absurd q (by decide)) (fun _ => ?_)
  refine pv_iload_2 (pc := 17) dX11_isUnder_17 ?_
  refine pv_iload_1 (pc := 18) dX11_isUnder_18 ?_
  refine pv_icmp_eq (pc := 19) (tgt := 34) dX11_isUnder_19 (by decide) (fun q => absurd q (by decide)) (fun _ => ?_)
  refine pv_gsAbove (pc := 22) dX11_isUnder_22 sl_X11_345 ?_
  refine pv_iload_2 (pc := 25) dX11_isUnder_25 ?_
  refine pv_ialoadj (pc := 26) dX11_isUnder_26 hab (j := 0) (by decide) (by unfold vp_in; decide) ?_
  refine pv_topv2 (y := (-1)) (by rw [hav _ (by decide)]; decide) ?_
  refine pv_istore_2 (pc := 27) dX11_isUnder_27 (by decide) rfl ?_
  refine pv_iinc_3 (pc := 28) (v := 2) dX11_isUnder_28 (by decide) (by decide) rfl ?_
  refine pv_goto (pc := 31) (tgt := 4) dX11_isUnder_31 (by decide) ?_
  refine pv_iload_3 (pc := 4) dX11_isUnder_4 ?_
  refine pv_bipush (pc := 5) (v := 7) dX11_isUnder_5 (by decide) ?_
  refine pv_icmp_ge (pc := 7) (tgt := 34) dX11_isUnder_7 (by decide) (fun q => absurd q (by decide)) (fun _ => ?_)
  refine pv_iload_2 (pc := 10) dX11_isUnder_10 ?_
  refine pv_callS1 (pc := 11) dX11_isUnder_11 mgX11_isKind ls_X11_129 (by omega) (c_X11_isKind ) rfl rfl (by decide) ?_
  refine pv_topv2 (y := 0) (by decide) ?_
  refine pv_if_eq (pc := 14) (tgt := 34) dX11_isUnder_14 (by decide) (fun _ => ?_) (fun q => absurd q (by decide))
  refine pv_iload_2 (pc := 34) dX11_isUnder_34 ?_
  refine pv_iload_1 (pc := 35) dX11_isUnder_35 ?_
  refine pv_icmp_ne (pc := 36) (tgt := 43) dX11_isUnder_36 (by decide) (fun _ => ?_) (fun q => absurd q (by decide))
  refine pv_iconst (pc := 43) (v := 0) dX11_isUnder_43 (by decide) ?_
  refine pv_iret (pc := 44) dX11_isUnder_44 rfl rfl ?_
  exact ⟨rfl, rfl, rfl, rfl, rfl⟩

set_option maxRecDepth 100000 in
set_option maxHeartbeats 4000000 in
theorem c_un_1_4 {G : pv_G} {d : Nat} {t : pv_T} {I : pv_I} {L : pv_L} {Rf : pv_R} (hd : 1 ≤ d) : pv_Mt G mX11_isUnder d 0 0 [.int 1, .int 4] t I L Rf (pv_is (some (.int (pv_b (x_un 1 4)))) t I L Rf) := by
  refine pv_mt mgX11_isUnder.2.2.2.2.2 [.int 1, .int 4, .retAddr 0, .retAddr 0] rfl (Nat.le_of_ble_eq_true rfl) ?_
  refine pv_know (fun hq => ?_)
  have hab : t.1 1 = some (.inl (.int, 7)) := (hq 1 (by decide)).1
  have hav : ∀ j, j < 7 → I 1 j = pv_above j := (hq 1 (by decide)).2 _ rfl
  refine pv_iload_0 (pc := 0) dX11_isUnder_0 ?_
  refine pv_istore_2 (pc := 1) dX11_isUnder_1 (by decide) rfl ?_
  refine pv_iconst (pc := 2) (v := 0) dX11_isUnder_2 (by decide) ?_
  refine pv_istore_3 (pc := 3) dX11_isUnder_3 (by decide) rfl ?_
  refine pv_iload_3 (pc := 4) dX11_isUnder_4 ?_
  refine pv_bipush (pc := 5) (v := 7) dX11_isUnder_5 (by decide) ?_
  refine pv_icmp_ge (pc := 7) (tgt := 34) dX11_isUnder_7 (by decide) (fun q => absurd q (by decide)) (fun _ => ?_)
  refine pv_iload_2 (pc := 10) dX11_isUnder_10 ?_
  refine pv_callS1 (pc := 11) dX11_isUnder_11 mgX11_isKind ls_X11_129 (by omega) (c_X11_isKind ) rfl rfl (by decide) ?_
  refine pv_topv2 (y := 1) (by decide) ?_
  refine pv_if_eq (pc := 14) (tgt := 34) dX11_isUnder_14 (by decide) (fun q => absurd q (by decide)) (fun _ => ?_)
  refine pv_iload_2 (pc := 17) dX11_isUnder_17 ?_
  refine pv_iload_1 (pc := 18) dX11_isUnder_18 ?_
  refine pv_icmp_eq (pc := 19) (tgt := 34) dX11_isUnder_19 (by decide) (fun q => absurd q (by decide)) (fun _ => ?_)
  refine pv_gsAbove (pc := 22) dX11_isUnder_22 sl_X11_345 ?_
  refine pv_iload_2 (pc := 25) dX11_isUnder_25 ?_
  refine pv_ialoadj (pc := 26) dX11_isUnder_26 hab (j := 1) (by decide) (by unfold vp_in; decide) ?_
  refine pv_topv2 (y := 0) (by rw [hav _ (by decide)]; decide) ?_
  refine pv_istore_2 (pc := 27) dX11_isUnder_27 (by decide) rfl ?_
  refine pv_iinc_3 (pc := 28) (v := 1) dX11_isUnder_28 (by decide) (by decide) rfl ?_
  refine pv_goto (pc := 31) (tgt := 4) dX11_isUnder_31 (by decide) ?_
  refine pv_iload_3 (pc := 4) dX11_isUnder_4 ?_
  refine pv_bipush (pc := 5) (v := 7) dX11_isUnder_5 (by decide) ?_
  refine pv_icmp_ge (pc := 7) (tgt := 34) dX11_isUnder_7 (by decide) (fun q => absurd q (by decide)) (fun _ => ?_)
  refine pv_iload_2 (pc := 10) dX11_isUnder_10 ?_
  refine pv_callS1 (pc := 11) dX11_isUnder_11 mgX11_isKind ls_X11_129 (by omega) (c_X11_isKind ) rfl rfl (by decide) ?_
  refine pv_topv2 (y := 1) (by decide) ?_
  refine pv_if_eq (pc := 14) (tgt := 34) dX11_isUnder_14 (by decide) (fun q => absurd q (by decide)) (fun _ => ?_)
  refine pv_iload_2 (pc := 17) dX11_isUnder_17 ?_
  refine pv_iload_1 (pc := 18) dX11_isUnder_18 ?_
  refine pv_icmp_eq (pc := 19) (tgt := 34) dX11_isUnder_19 (by decide) (fun q => absurd q (by decide)) (fun _ => ?_)
  refine pv_gsAbove (pc := 22) dX11_isUnder_22 sl_X11_345 ?_
  refine pv_iload_2 (pc := 25) dX11_isUnder_25 ?_
  refine pv_ialoadj (pc := 26) dX11_isUnder_26 hab (j := 0) (by decide) (by unfold vp_in; decide) ?_
  refine pv_topv2 (y := (-1)) (by rw [hav _ (by decide)]; decide) ?_
  refine pv_istore_2 (pc := 27) dX11_isUnder_27 (by decide) rfl ?_
  refine pv_iinc_3 (pc := 28) (v := 2) dX11_isUnder_28 (by decide) (by decide) rfl ?_
  refine pv_goto (pc := 31) (tgt := 4) dX11_isUnder_31 (by decide) ?_
  refine pv_iload_3 (pc := 4) dX11_isUnder_4 ?_
  refine pv_bipush (pc := 5) (v := 7) dX11_isUnder_5 (by decide) ?_
  refine pv_icmp_ge (pc := 7) (tgt := 34) dX11_isUnder_7 (by decide) (fun q => absurd q (by decide)) (fun _ => ?_)
  refine pv_iload_2 (pc := 10) dX11_isUnder_10 ?_
  refine pv_callS1 (pc := 11) dX11_isUnder_11 mgX11_isKind ls_X11_129 (by omega) (c_X11_isKind ) rfl rfl (by decide) ?_
  refine pv_topv2 (y := 0) (by decide) ?_
  refine pv_if_eq (pc := 14) (tgt := 34) dX11_isUnder_14 (by decide) (fun _ => ?_) (fun q => absurd q (by decide))
  refine pv_iload_2 (pc := 34) dX11_isUnder_34 ?_
  refine pv_iload_1 (pc := 35) dX11_isUnder_35 ?_
  refine pv_icmp_ne (pc := 36) (tgt := 43) dX11_isUnder_36 (by decide) (fun _ => ?_) (fun q => absurd q (by decide))
  refine pv_iconst (pc := 43) (v := 0) dX11_isUnder_43 (by decide) ?_
  refine pv_iret (pc := 44) dX11_isUnder_44 rfl rfl ?_
  exact ⟨rfl, rfl, rfl, rfl, rfl⟩

set_option maxRecDepth 100000 in
set_option maxHeartbeats 4000000 in
theorem c_un_1_5 {G : pv_G} {d : Nat} {t : pv_T} {I : pv_I} {L : pv_L} {Rf : pv_R} (hd : 1 ≤ d) : pv_Mt G mX11_isUnder d 0 0 [.int 1, .int 5] t I L Rf (pv_is (some (.int (pv_b (x_un 1 5)))) t I L Rf) := by
  refine pv_mt mgX11_isUnder.2.2.2.2.2 [.int 1, .int 5, .retAddr 0, .retAddr 0] rfl (Nat.le_of_ble_eq_true rfl) ?_
  refine pv_know (fun hq => ?_)
  have hab : t.1 1 = some (.inl (.int, 7)) := (hq 1 (by decide)).1
  have hav : ∀ j, j < 7 → I 1 j = pv_above j := (hq 1 (by decide)).2 _ rfl
  refine pv_iload_0 (pc := 0) dX11_isUnder_0 ?_
  refine pv_istore_2 (pc := 1) dX11_isUnder_1 (by decide) rfl ?_
  refine pv_iconst (pc := 2) (v := 0) dX11_isUnder_2 (by decide) ?_
  refine pv_istore_3 (pc := 3) dX11_isUnder_3 (by decide) rfl ?_
  refine pv_iload_3 (pc := 4) dX11_isUnder_4 ?_
  refine pv_bipush (pc := 5) (v := 7) dX11_isUnder_5 (by decide) ?_
  refine pv_icmp_ge (pc := 7) (tgt := 34) dX11_isUnder_7 (by decide) (fun q => absurd q (by decide)) (fun _ => ?_)
  refine pv_iload_2 (pc := 10) dX11_isUnder_10 ?_
  refine pv_callS1 (pc := 11) dX11_isUnder_11 mgX11_isKind ls_X11_129 (by omega) (c_X11_isKind ) rfl rfl (by decide) ?_
  refine pv_topv2 (y := 1) (by decide) ?_
  refine pv_if_eq (pc := 14) (tgt := 34) dX11_isUnder_14 (by decide) (fun q => absurd q (by decide)) (fun _ => ?_)
  refine pv_iload_2 (pc := 17) dX11_isUnder_17 ?_
  refine pv_iload_1 (pc := 18) dX11_isUnder_18 ?_
  refine pv_icmp_eq (pc := 19) (tgt := 34) dX11_isUnder_19 (by decide) (fun q => absurd q (by decide)) (fun _ => ?_)
  refine pv_gsAbove (pc := 22) dX11_isUnder_22 sl_X11_345 ?_
  refine pv_iload_2 (pc := 25) dX11_isUnder_25 ?_
  refine pv_ialoadj (pc := 26) dX11_isUnder_26 hab (j := 1) (by decide) (by unfold vp_in; decide) ?_
  refine pv_topv2 (y := 0) (by rw [hav _ (by decide)]; decide) ?_
  refine pv_istore_2 (pc := 27) dX11_isUnder_27 (by decide) rfl ?_
  refine pv_iinc_3 (pc := 28) (v := 1) dX11_isUnder_28 (by decide) (by decide) rfl ?_
  refine pv_goto (pc := 31) (tgt := 4) dX11_isUnder_31 (by decide) ?_
  refine pv_iload_3 (pc := 4) dX11_isUnder_4 ?_
  refine pv_bipush (pc := 5) (v := 7) dX11_isUnder_5 (by decide) ?_
  refine pv_icmp_ge (pc := 7) (tgt := 34) dX11_isUnder_7 (by decide) (fun q => absurd q (by decide)) (fun _ => ?_)
  refine pv_iload_2 (pc := 10) dX11_isUnder_10 ?_
  refine pv_callS1 (pc := 11) dX11_isUnder_11 mgX11_isKind ls_X11_129 (by omega) (c_X11_isKind ) rfl rfl (by decide) ?_
  refine pv_topv2 (y := 1) (by decide) ?_
  refine pv_if_eq (pc := 14) (tgt := 34) dX11_isUnder_14 (by decide) (fun q => absurd q (by decide)) (fun _ => ?_)
  refine pv_iload_2 (pc := 17) dX11_isUnder_17 ?_
  refine pv_iload_1 (pc := 18) dX11_isUnder_18 ?_
  refine pv_icmp_eq (pc := 19) (tgt := 34) dX11_isUnder_19 (by decide) (fun q => absurd q (by decide)) (fun _ => ?_)
  refine pv_gsAbove (pc := 22) dX11_isUnder_22 sl_X11_345 ?_
  refine pv_iload_2 (pc := 25) dX11_isUnder_25 ?_
  refine pv_ialoadj (pc := 26) dX11_isUnder_26 hab (j := 0) (by decide) (by unfold vp_in; decide) ?_
  refine pv_topv2 (y := (-1)) (by rw [hav _ (by decide)]; decide) ?_
  refine pv_istore_2 (pc := 27) dX11_isUnder_27 (by decide) rfl ?_
  refine pv_iinc_3 (pc := 28) (v := 2) dX11_isUnder_28 (by decide) (by decide) rfl ?_
  refine pv_goto (pc := 31) (tgt := 4) dX11_isUnder_31 (by decide) ?_
  refine pv_iload_3 (pc := 4) dX11_isUnder_4 ?_
  refine pv_bipush (pc := 5) (v := 7) dX11_isUnder_5 (by decide) ?_
  refine pv_icmp_ge (pc := 7) (tgt := 34) dX11_isUnder_7 (by decide) (fun q => absurd q (by decide)) (fun _ => ?_)
  refine pv_iload_2 (pc := 10) dX11_isUnder_10 ?_
  refine pv_callS1 (pc := 11) dX11_isUnder_11 mgX11_isKind ls_X11_129 (by omega) (c_X11_isKind ) rfl rfl (by decide) ?_
  refine pv_topv2 (y := 0) (by decide) ?_
  refine pv_if_eq (pc := 14) (tgt := 34) dX11_isUnder_14 (by decide) (fun _ => ?_) (fun q => absurd q (by decide))
  refine pv_iload_2 (pc := 34) dX11_isUnder_34 ?_
  refine pv_iload_1 (pc := 35) dX11_isUnder_35 ?_
  refine pv_icmp_ne (pc := 36) (tgt := 43) dX11_isUnder_36 (by decide) (fun _ => ?_) (fun q => absurd q (by decide))
  refine pv_iconst (pc := 43) (v := 0) dX11_isUnder_43 (by decide) ?_
  refine pv_iret (pc := 44) dX11_isUnder_44 rfl rfl ?_
  exact ⟨rfl, rfl, rfl, rfl, rfl⟩

set_option maxRecDepth 100000 in
set_option maxHeartbeats 4000000 in
theorem c_un_1_6 {G : pv_G} {d : Nat} {t : pv_T} {I : pv_I} {L : pv_L} {Rf : pv_R} (hd : 1 ≤ d) : pv_Mt G mX11_isUnder d 0 0 [.int 1, .int 6] t I L Rf (pv_is (some (.int (pv_b (x_un 1 6)))) t I L Rf) := by
  refine pv_mt mgX11_isUnder.2.2.2.2.2 [.int 1, .int 6, .retAddr 0, .retAddr 0] rfl (Nat.le_of_ble_eq_true rfl) ?_
  refine pv_know (fun hq => ?_)
  have hab : t.1 1 = some (.inl (.int, 7)) := (hq 1 (by decide)).1
  have hav : ∀ j, j < 7 → I 1 j = pv_above j := (hq 1 (by decide)).2 _ rfl
  refine pv_iload_0 (pc := 0) dX11_isUnder_0 ?_
  refine pv_istore_2 (pc := 1) dX11_isUnder_1 (by decide) rfl ?_
  refine pv_iconst (pc := 2) (v := 0) dX11_isUnder_2 (by decide) ?_
  refine pv_istore_3 (pc := 3) dX11_isUnder_3 (by decide) rfl ?_
  refine pv_iload_3 (pc := 4) dX11_isUnder_4 ?_
  refine pv_bipush (pc := 5) (v := 7) dX11_isUnder_5 (by decide) ?_
  refine pv_icmp_ge (pc := 7) (tgt := 34) dX11_isUnder_7 (by decide) (fun q => absurd q (by decide)) (fun _ => ?_)
  refine pv_iload_2 (pc := 10) dX11_isUnder_10 ?_
  refine pv_callS1 (pc := 11) dX11_isUnder_11 mgX11_isKind ls_X11_129 (by omega) (c_X11_isKind ) rfl rfl (by decide) ?_
  refine pv_topv2 (y := 1) (by decide) ?_
  refine pv_if_eq (pc := 14) (tgt := 34) dX11_isUnder_14 (by decide) (fun q => absurd q (by decide)) (fun _ => ?_)
  refine pv_iload_2 (pc := 17) dX11_isUnder_17 ?_
  refine pv_iload_1 (pc := 18) dX11_isUnder_18 ?_
  refine pv_icmp_eq (pc := 19) (tgt := 34) dX11_isUnder_19 (by decide) (fun q => absurd q (by decide)) (fun _ => ?_)
  refine pv_gsAbove (pc := 22) dX11_isUnder_22 sl_X11_345 ?_
  refine pv_iload_2 (pc := 25) dX11_isUnder_25 ?_
  refine pv_ialoadj (pc := 26) dX11_isUnder_26 hab (j := 1) (by decide) (by unfold vp_in; decide) ?_
  refine pv_topv2 (y := 0) (by rw [hav _ (by decide)]; decide) ?_
  refine pv_istore_2 (pc := 27) dX11_isUnder_27 (by decide) rfl ?_
  refine pv_iinc_3 (pc := 28) (v := 1) dX11_isUnder_28 (by decide) (by decide) rfl ?_
  refine pv_goto (pc := 31) (tgt := 4) dX11_isUnder_31 (by decide) ?_
  refine pv_iload_3 (pc := 4) dX11_isUnder_4 ?_
  refine pv_bipush (pc := 5) (v := 7) dX11_isUnder_5 (by decide) ?_
  refine pv_icmp_ge (pc := 7) (tgt := 34) dX11_isUnder_7 (by decide) (fun q => absurd q (by decide)) (fun _ => ?_)
  refine pv_iload_2 (pc := 10) dX11_isUnder_10 ?_
  refine pv_callS1 (pc := 11) dX11_isUnder_11 mgX11_isKind ls_X11_129 (by omega) (c_X11_isKind ) rfl rfl (by decide) ?_
  refine pv_topv2 (y := 1) (by decide) ?_
  refine pv_if_eq (pc := 14) (tgt := 34) dX11_isUnder_14 (by decide) (fun q => absurd q (by decide)) (fun _ => ?_)
  refine pv_iload_2 (pc := 17) dX11_isUnder_17 ?_
  refine pv_iload_1 (pc := 18) dX11_isUnder_18 ?_
  refine pv_icmp_eq (pc := 19) (tgt := 34) dX11_isUnder_19 (by decide) (fun q => absurd q (by decide)) (fun _ => ?_)
  refine pv_gsAbove (pc := 22) dX11_isUnder_22 sl_X11_345 ?_
  refine pv_iload_2 (pc := 25) dX11_isUnder_25 ?_
  refine pv_ialoadj (pc := 26) dX11_isUnder_26 hab (j := 0) (by decide) (by unfold vp_in; decide) ?_
  refine pv_topv2 (y := (-1)) (by rw [hav _ (by decide)]; decide) ?_
  refine pv_istore_2 (pc := 27) dX11_isUnder_27 (by decide) rfl ?_
  refine pv_iinc_3 (pc := 28) (v := 2) dX11_isUnder_28 (by decide) (by decide) rfl ?_
  refine pv_goto (pc := 31) (tgt := 4) dX11_isUnder_31 (by decide) ?_
  refine pv_iload_3 (pc := 4) dX11_isUnder_4 ?_
  refine pv_bipush (pc := 5) (v := 7) dX11_isUnder_5 (by decide) ?_
  refine pv_icmp_ge (pc := 7) (tgt := 34) dX11_isUnder_7 (by decide) (fun q => absurd q (by decide)) (fun _ => ?_)
  refine pv_iload_2 (pc := 10) dX11_isUnder_10 ?_
  refine pv_callS1 (pc := 11) dX11_isUnder_11 mgX11_isKind ls_X11_129 (by omega) (c_X11_isKind ) rfl rfl (by decide) ?_
  refine pv_topv2 (y := 0) (by decide) ?_
  refine pv_if_eq (pc := 14) (tgt := 34) dX11_isUnder_14 (by decide) (fun _ => ?_) (fun q => absurd q (by decide))
  refine pv_iload_2 (pc := 34) dX11_isUnder_34 ?_
  refine pv_iload_1 (pc := 35) dX11_isUnder_35 ?_
  refine pv_icmp_ne (pc := 36) (tgt := 43) dX11_isUnder_36 (by decide) (fun _ => ?_) (fun q => absurd q (by decide))
  refine pv_iconst (pc := 43) (v := 0) dX11_isUnder_43 (by decide) ?_
  refine pv_iret (pc := 44) dX11_isUnder_44 rfl rfl ?_
  exact ⟨rfl, rfl, rfl, rfl, rfl⟩

set_option maxRecDepth 100000 in
set_option maxHeartbeats 4000000 in
theorem c_un_2_0 {G : pv_G} {d : Nat} {t : pv_T} {I : pv_I} {L : pv_L} {Rf : pv_R} (hd : 1 ≤ d) : pv_Mt G mX11_isUnder d 0 0 [.int 2, .int 0] t I L Rf (pv_is (some (.int (pv_b (x_un 2 0)))) t I L Rf) := by
  refine pv_mt mgX11_isUnder.2.2.2.2.2 [.int 2, .int 0, .retAddr 0, .retAddr 0] rfl (Nat.le_of_ble_eq_true rfl) ?_
  refine pv_know (fun hq => ?_)
  have hab : t.1 1 = some (.inl (.int, 7)) := (hq 1 (by decide)).1
  have hav : ∀ j, j < 7 → I 1 j = pv_above j := (hq 1 (by decide)).2 _ rfl
  refine pv_iload_0 (pc := 0) dX11_isUnder_0 ?_
  refine pv_istore_2 (pc := 1) dX11_isUnder_1 (by decide) rfl ?_
  refine pv_iconst (pc := 2) (v := 0) dX11_isUnder_2 (by decide) ?_
  refine pv_istore_3 (pc := 3) dX11_isUnder_3 (by decide) rfl ?_
  refine pv_iload_3 (pc := 4) dX11_isUnder_4 ?_
  refine pv_bipush (pc := 5) (v := 7) dX11_isUnder_5 (by decide) ?_
  refine pv_icmp_ge (pc := 7) (tgt := 34) dX11_isUnder_7 (by decide) (fun q => absurd q (by decide)) (fun _ => ?_)
  refine pv_iload_2 (pc := 10) dX11_isUnder_10 ?_
  refine pv_callS1 (pc := 11) dX11_isUnder_11 mgX11_isKind ls_X11_129 (by omega) (c_X11_isKind ) rfl rfl (by decide) ?_
  refine pv_topv2 (y := 1) (by decide) ?_
  refine pv_if_eq (pc := 14) (tgt := 34) dX11_isUnder_14 (by decide) (fun q => absurd q (by decide)) (fun _ => ?_)
  refine pv_iload_2 (pc := 17) dX11_isUnder_17 ?_
  refine pv_iload_1 (pc := 18) dX11_isUnder_18 ?_
  refine pv_icmp_eq (pc := 19) (tgt := 34) dX11_isUnder_19 (by decide) (fun q => absurd q (by decide)) (fun _ => ?_)
  refine pv_gsAbove (pc := 22) dX11_isUnder_22 sl_X11_345 ?_
  refine pv_iload_2 (pc := 25) dX11_isUnder_25 ?_
  refine pv_ialoadj (pc := 26) dX11_isUnder_26 hab (j := 2) (by decide) (by unfold vp_in; decide) ?_
  refine pv_topv2 (y := 1) (by rw [hav _ (by decide)]; decide) ?_
  refine pv_istore_2 (pc := 27) dX11_isUnder_27 (by decide) rfl ?_
  refine pv_iinc_3 (pc := 28) (v := 1) dX11_isUnder_28 (by decide) (by decide) rfl ?_
  refine pv_goto (pc := 31) (tgt := 4) dX11_isUnder_31 (by decide) ?_
  refine pv_iload_3 (pc := 4) dX11_isUnder_4 ?_
  refine pv_bipush (pc := 5) (v := 7) dX11_isUnder_5 (by decide) ?_
  refine pv_icmp_ge (pc := 7) (tgt := 34) dX11_isUnder_7 (by decide) (fun q => absurd q (by decide)) (fun _ => ?_)
  refine pv_iload_2 (pc := 10) dX11_isUnder_10 ?_
  refine pv_callS1 (pc := 11) dX11_isUnder_11 mgX11_isKind ls_X11_129 (by omega) (c_X11_isKind ) rfl rfl (by decide) ?_
  refine pv_topv2 (y := 1) (by decide) ?_
  refine pv_if_eq (pc := 14) (tgt := 34) dX11_isUnder_14 (by decide) (fun q => absurd q (by decide)) (fun _ => ?_)
  refine pv_iload_2 (pc := 17) dX11_isUnder_17 ?_
  refine pv_iload_1 (pc := 18) dX11_isUnder_18 ?_
  refine pv_icmp_eq (pc := 19) (tgt := 34) dX11_isUnder_19 (by decide) (fun q => absurd q (by decide)) (fun _ => ?_)
  refine pv_gsAbove (pc := 22) dX11_isUnder_22 sl_X11_345 ?_
  refine pv_iload_2 (pc := 25) dX11_isUnder_25 ?_
  refine pv_ialoadj (pc := 26) dX11_isUnder_26 hab (j := 1) (by decide) (by unfold vp_in; decide) ?_
  refine pv_topv2 (y := 0) (by rw [hav _ (by decide)]; decide) ?_
  refine pv_istore_2 (pc := 27) dX11_isUnder_27 (by decide) rfl ?_
  refine pv_iinc_3 (pc := 28) (v := 2) dX11_isUnder_28 (by decide) (by decide) rfl ?_
  refine pv_goto (pc := 31) (tgt := 4) dX11_isUnder_31 (by decide) ?_
  refine pv_iload_3 (pc := 4) dX11_isUnder_4 ?_
  refine pv_bipush (pc := 5) (v := 7) dX11_isUnder_5 (by decide) ?_
  refine pv_icmp_ge (pc := 7) (tgt := 34) dX11_isUnder_7 (by decide) (fun q => absurd q (by decide)) (fun _ => ?_)
  refine pv_iload_2 (pc := 10) dX11_isUnder_10 ?_
  refine pv_callS1 (pc := 11) dX11_isUnder_11 mgX11_isKind ls_X11_129 (by omega) (c_X11_isKind ) rfl rfl (by decide) ?_
  refine pv_topv2 (y := 1) (by decide) ?_
  refine pv_if_eq (pc := 14) (tgt := 34) dX11_isUnder_14 (by decide) (fun q => absurd q (by decide)) (fun _ => ?_)
  refine pv_iload_2 (pc := 17) dX11_isUnder_17 ?_
  refine pv_iload_1 (pc := 18) dX11_isUnder_18 ?_
  refine pv_icmp_eq (pc := 19) (tgt := 34) dX11_isUnder_19 (by decide) (fun _ => ?_) (fun q => absurd q (by decide))
  refine pv_iload_2 (pc := 34) dX11_isUnder_34 ?_
  refine pv_iload_1 (pc := 35) dX11_isUnder_35 ?_
  refine pv_icmp_ne (pc := 36) (tgt := 43) dX11_isUnder_36 (by decide) (fun q => absurd q (by decide)) (fun _ => ?_)
  refine pv_iconst (pc := 39) (v := 1) dX11_isUnder_39 (by decide) ?_
  refine pv_goto (pc := 40) (tgt := 44) dX11_isUnder_40 (by decide) ?_
  refine pv_iret (pc := 44) dX11_isUnder_44 rfl rfl ?_
  exact ⟨rfl, rfl, rfl, rfl, rfl⟩

set_option maxRecDepth 100000 in
set_option maxHeartbeats 4000000 in
theorem c_un_2_1 {G : pv_G} {d : Nat} {t : pv_T} {I : pv_I} {L : pv_L} {Rf : pv_R} (hd : 1 ≤ d) : pv_Mt G mX11_isUnder d 0 0 [.int 2, .int 1] t I L Rf (pv_is (some (.int (pv_b (x_un 2 1)))) t I L Rf) := by
  refine pv_mt mgX11_isUnder.2.2.2.2.2 [.int 2, .int 1, .retAddr 0, .retAddr 0] rfl (Nat.le_of_ble_eq_true rfl) ?_
  refine pv_know (fun hq => ?_)
  have hab : t.1 1 = some (.inl (.int, 7)) := (hq 1 (by decide)).1
  have hav : ∀ j, j < 7 → I 1 j = pv_above j := (hq 1 (by decide)).2 _ rfl
  refine pv_iload_0 (pc := 0) dX11_isUnder_0 ?_
  refine pv_istore_2 (pc := 1) dX11_isUnder_1 (by decide) rfl ?_
  refine pv_iconst (pc := 2) (v := 0) dX11_isUnder_2 (by decide) ?_
  refine pv_istore_3 (pc := 3) dX11_isUnder_3 (by decide) rfl ?_
  refine pv_iload_3 (pc := 4) dX11_isUnder_4 ?_
  refine pv_bipush (pc := 5) (v := 7) dX11_isUnder_5 (by decide) ?_
  refine pv_icmp_ge (pc := 7) (tgt := 34) dX11_isUnder_7 (by decide) (fun q => absurd q (by decide)) (fun _ => ?_)
  refine pv_iload_2 (pc := 10) dX11_isUnder_10 ?_
  refine pv_callS1 (pc := 11) dX11_isUnder_11 mgX11_isKind ls_X11_129 (by omega) (c_X11_isKind ) rfl rfl (by decide) ?_
  refine pv_topv2 (y := 1) (by decide) ?_
  refine pv_if_eq (pc := 14) (tgt := 34) dX11_isUnder_14 (by decide) (fun q => absurd q (by decide)) (fun _ => ?_)
  refine pv_iload_2 (pc := 17) dX11_isUnder_17 ?_
  refine pv_iload_1 (pc := 18) dX11_isUnder_18 ?_
  refine pv_icmp_eq (pc := 19) (tgt := 34) dX11_isUnder_19 (by decide) (fun q => absurd q (by decide)) (fun _ => ?_)
  refine pv_gsAbove (pc := 22) dX11_isUnder_22 sl_X11_345 ?_
  refine pv_iload_2 (pc := 25) dX11_isUnder_25 ?_
  refine pv_ialoadj (pc := 26) dX11_isUnder_26 hab (j := 2) (by decide) (by unfold vp_in; decide) ?_
  refine pv_topv2 (y := 1) (by rw [hav _ (by decide)]; decide) ?_
  refine pv_istore_2 (pc := 27) dX11_isUnder_27 (by decide) rfl ?_
  refine pv_iinc_3 (pc := 28) (v := 1) dX11_isUnder_28 (by decide) (by decide) rfl ?_
  refine pv_goto (pc := 31) (tgt := 4) dX11_isUnder_31 (by decide) ?_
  refine pv_iload_3 (pc := 4) dX11_isUnder_4 ?_
  refine pv_bipush (pc := 5) (v := 7) dX11_isUnder_5 (by decide) ?_
  refine pv_icmp_ge (pc := 7) (tgt := 34) dX11_isUnder_7 (by decide) (fun q => absurd q (by decide)) (fun _ => ?_)
  refine pv_iload_2 (pc := 10) dX11_isUnder_10 ?_
  refine pv_callS1 (pc := 11) dX11_isUnder_11 mgX11_isKind ls_X11_129 (by omega) (c_X11_isKind ) rfl rfl (by decide) ?_
  refine pv_topv2 (y := 1) (by decide) ?_
  refine pv_if_eq (pc := 14) (tgt := 34) dX11_isUnder_14 (by decide) (fun q => absurd q (by decide)) (fun _ => ?_)
  refine pv_iload_2 (pc := 17) dX11_isUnder_17 ?_
  refine pv_iload_1 (pc := 18) dX11_isUnder_18 ?_
  refine pv_icmp_eq (pc := 19) (tgt := 34) dX11_isUnder_19 (by decide) (fun _ => ?_) (fun q => absurd q (by decide))
  refine pv_iload_2 (pc := 34) dX11_isUnder_34 ?_
  refine pv_iload_1 (pc := 35) dX11_isUnder_35 ?_
  refine pv_icmp_ne (pc := 36) (tgt := 43) dX11_isUnder_36 (by decide) (fun q => absurd q (by decide)) (fun _ => ?_)
  refine pv_iconst (pc := 39) (v := 1) dX11_isUnder_39 (by decide) ?_
  refine pv_goto (pc := 40) (tgt := 44) dX11_isUnder_40 (by decide) ?_
  refine pv_iret (pc := 44) dX11_isUnder_44 rfl rfl ?_
  exact ⟨rfl, rfl, rfl, rfl, rfl⟩

set_option maxRecDepth 100000 in
set_option maxHeartbeats 4000000 in
theorem c_un_2_2 {G : pv_G} {d : Nat} {t : pv_T} {I : pv_I} {L : pv_L} {Rf : pv_R} (hd : 1 ≤ d) : pv_Mt G mX11_isUnder d 0 0 [.int 2, .int 2] t I L Rf (pv_is (some (.int (pv_b (x_un 2 2)))) t I L Rf) := by
  refine pv_mt mgX11_isUnder.2.2.2.2.2 [.int 2, .int 2, .retAddr 0, .retAddr 0] rfl (Nat.le_of_ble_eq_true rfl) ?_
  refine pv_know (fun hq => ?_)
  have hab : t.1 1 = some (.inl (.int, 7)) := (hq 1 (by decide)).1
  have hav : ∀ j, j < 7 → I 1 j = pv_above j := (hq 1 (by decide)).2 _ rfl
  refine pv_iload_0 (pc := 0) dX11_isUnder_0 ?_
  refine pv_istore_2 (pc := 1) dX11_isUnder_1 (by decide) rfl ?_
  refine pv_iconst (pc := 2) (v := 0) dX11_isUnder_2 (by decide) ?_
  refine pv_istore_3 (pc := 3) dX11_isUnder_3 (by decide) rfl ?_
  refine pv_iload_3 (pc := 4) dX11_isUnder_4 ?_
  refine pv_bipush (pc := 5) (v := 7) dX11_isUnder_5 (by decide) ?_
  refine pv_icmp_ge (pc := 7) (tgt := 34) dX11_isUnder_7 (by decide) (fun q => absurd q (by decide)) (fun _ => ?_)
  refine pv_iload_2 (pc := 10) dX11_isUnder_10 ?_
  refine pv_callS1 (pc := 11) dX11_isUnder_11 mgX11_isKind ls_X11_129 (by omega) (c_X11_isKind ) rfl rfl (by decide) ?_
  refine pv_topv2 (y := 1) (by decide) ?_
  refine pv_if_eq (pc := 14) (tgt := 34) dX11_isUnder_14 (by decide) (fun q => absurd q (by decide)) (fun _ => ?_)
  refine pv_iload_2 (pc := 17) dX11_isUnder_17 ?_
  refine pv_iload_1 (pc := 18) dX11_isUnder_18 ?_
  refine pv_icmp_eq (pc := 19) (tgt := 34) dX11_isUnder_19 (by decide) (fun _ => ?_) (fun q => absurd q (by decide))
  refine pv_iload_2 (pc := 34) dX11_isUnder_34 ?_
  refine pv_iload_1 (pc := 35) dX11_isUnder_35 ?_
  refine pv_icmp_ne (pc := 36) (tgt := 43) dX11_isUnder_36 (by decide) (fun q => absurd q (by decide)) (fun _ => ?_)
  refine pv_iconst (pc := 39) (v := 1) dX11_isUnder_39 (by decide) ?_
  refine pv_goto (pc := 40) (tgt := 44) dX11_isUnder_40 (by decide) ?_
  refine pv_iret (pc := 44) dX11_isUnder_44 rfl rfl ?_
  exact ⟨rfl, rfl, rfl, rfl, rfl⟩

set_option maxRecDepth 100000 in
set_option maxHeartbeats 4000000 in
theorem c_un_2_3 {G : pv_G} {d : Nat} {t : pv_T} {I : pv_I} {L : pv_L} {Rf : pv_R} (hd : 1 ≤ d) : pv_Mt G mX11_isUnder d 0 0 [.int 2, .int 3] t I L Rf (pv_is (some (.int (pv_b (x_un 2 3)))) t I L Rf) := by
  refine pv_mt mgX11_isUnder.2.2.2.2.2 [.int 2, .int 3, .retAddr 0, .retAddr 0] rfl (Nat.le_of_ble_eq_true rfl) ?_
  refine pv_know (fun hq => ?_)
  have hab : t.1 1 = some (.inl (.int, 7)) := (hq 1 (by decide)).1
  have hav : ∀ j, j < 7 → I 1 j = pv_above j := (hq 1 (by decide)).2 _ rfl
  refine pv_iload_0 (pc := 0) dX11_isUnder_0 ?_
  refine pv_istore_2 (pc := 1) dX11_isUnder_1 (by decide) rfl ?_
  refine pv_iconst (pc := 2) (v := 0) dX11_isUnder_2 (by decide) ?_
  refine pv_istore_3 (pc := 3) dX11_isUnder_3 (by decide) rfl ?_
  refine pv_iload_3 (pc := 4) dX11_isUnder_4 ?_
  refine pv_bipush (pc := 5) (v := 7) dX11_isUnder_5 (by decide) ?_
  refine pv_icmp_ge (pc := 7) (tgt := 34) dX11_isUnder_7 (by decide) (fun q => absurd q (by decide)) (fun _ => ?_)
  refine pv_iload_2 (pc := 10) dX11_isUnder_10 ?_
  refine pv_callS1 (pc := 11) dX11_isUnder_11 mgX11_isKind ls_X11_129 (by omega) (c_X11_isKind ) rfl rfl (by decide) ?_
  refine pv_topv2 (y := 1) (by decide) ?_
  refine pv_if_eq (pc := 14) (tgt := 34) dX11_isUnder_14 (by decide) (fun q => absurd q (by decide)) (fun _ => ?_)
  refine pv_iload_2 (pc := 17) dX11_isUnder_17 ?_
  refine pv_iload_1 (pc := 18) dX11_isUnder_18 ?_
  refine pv_icmp_eq (pc := 19) (tgt := 34) dX11_isUnder_19 (by decide) (fun q => absurd q (by decide)) (fun _ => ?_)
  refine pv_gsAbove (pc := 22) dX11_isUnder_22 sl_X11_345 ?_
  refine pv_iload_2 (pc := 25) dX11_isUnder_25 ?_
  refine pv_ialoadj (pc := 26) dX11_isUnder_26 hab (j := 2) (by decide) (by unfold vp_in; decide) ?_
  refine pv_topv2 (y := 1) (by rw [hav _ (by decide)]; decide) ?_
  refine pv_istore_2 (pc := 27) dX11_isUnder_27 (by decide) rfl ?_
  refine pv_iinc_3 (pc := 28) (v := 1) dX11_isUnder_28 (by decide) (by decide) rfl ?_
  refine pv_goto (pc := 31) (tgt := 4) dX11_isUnder_31 (by decide) ?_
  refine pv_iload_3 (pc := 4) dX11_isUnder_4 ?_
  refine pv_bipush (pc := 5) (v := 7) dX11_isUnder_5 (by decide) ?_
  refine pv_icmp_ge (pc := 7) (tgt := 34) dX11_isUnder_7 (by decide) (fun q => absurd q (by decide)) (fun _ => ?_)
  refine pv_iload_2 (pc := 10) dX11_isUnder_10 ?_
  refine pv_callS1 (pc := 11) dX11_isUnder_11 mgX11_isKind ls_X11_129 (by omega) (c_X11_isKind ) rfl rfl (by decide) ?_
  refine pv_topv2 (y := 1) (by decide) ?_
  refine pv_if_eq (pc := 14) (tgt := 34) dX11_isUnder_14 (by decide) (fun q => absurd q (by decide)) (fun _ => ?_)
  refine pv_iload_2 (pc := 17) dX11_isUnder_17 ?_
  refine pv_iload_1 (pc := 18) dX11_isUnder_18 ?_
  refine pv_icmp_eq (pc := 19) (tgt := 34) dX11_isUnder_19 (by decide) (fun q => absurd q (by decide)) (fun _ => ?_)
  refine pv_gsAbove (pc := 22) dX11_isUnder_22 sl_X11_345 ?_
  refine pv_iload_2 (pc := 25) dX11_isUnder_25 ?_
  refine pv_ialoadj (pc := 26) dX11_isUnder_26 hab (j := 1) (by decide) (by unfold vp_in; decide) ?_
  refine pv_topv2 (y := 0) (by rw [hav _ (by decide)]; decide) ?_
  refine pv_istore_2 (pc := 27) dX11_isUnder_27 (by decide) rfl ?_
  refine pv_iinc_3 (pc := 28) (v := 2) dX11_isUnder_28 (by decide) (by decide) rfl ?_
  refine pv_goto (pc := 31) (tgt := 4) dX11_isUnder_31 (by decide) ?_
  refine pv_iload_3 (pc := 4) dX11_isUnder_4 ?_
  refine pv_bipush (pc := 5) (v := 7) dX11_isUnder_5 (by decide) ?_
  refine pv_icmp_ge (pc := 7) (tgt := 34) dX11_isUnder_7 (by decide) (fun q => absurd q (by decide)) (fun _ => ?_)
  refine pv_iload_2 (pc := 10) dX11_isUnder_10 ?_
  refine pv_callS1 (pc := 11) dX11_isUnder_11 mgX11_isKind ls_X11_129 (by omega) (c_X11_isKind ) rfl rfl (by decide) ?_
  refine pv_topv2 (y := 1) (by decide) ?_
  refine pv_if_eq (pc := 14) (tgt := 34) dX11_isUnder_14 (by decide) (fun q => absurd q (by decide)) (fun _ => ?_)
  refine pv_iload_2 (pc := 17) dX11_isUnder_17 ?_
  refine pv_iload_1 (pc := 18) dX11_isUnder_18 ?_
  refine pv_icmp_eq (pc := 19) (tgt := 34) dX11_isUnder_19 (by decide) (fun q => absurd q (by decide)) (fun _ => ?_)
  refine pv_gsAbove (pc := 22) dX11_isUnder_22 sl_X11_345 ?_
  refine pv_iload_2 (pc := 25) dX11_isUnder_25 ?_
  refine pv_ialoadj (pc := 26) dX11_isUnder_26 hab (j := 0) (by decide) (by unfold vp_in; decide) ?_
  refine pv_topv2 (y := (-1)) (by rw [hav _ (by decide)]; decide) ?_
  refine pv_istore_2 (pc := 27) dX11_isUnder_27 (by decide) rfl ?_
  refine pv_iinc_3 (pc := 28) (v := 3) dX11_isUnder_28 (by decide) (by decide) rfl ?_
  refine pv_goto (pc := 31) (tgt := 4) dX11_isUnder_31 (by decide) ?_
  refine pv_iload_3 (pc := 4) dX11_isUnder_4 ?_
  refine pv_bipush (pc := 5) (v := 7) dX11_isUnder_5 (by decide) ?_
  refine pv_icmp_ge (pc := 7) (tgt := 34) dX11_isUnder_7 (by decide) (fun q => absurd q (by decide)) (fun _ => ?_)
  refine pv_iload_2 (pc := 10) dX11_isUnder_10 ?_
  refine pv_callS1 (pc := 11) dX11_isUnder_11 mgX11_isKind ls_X11_129 (by omega) (c_X11_isKind ) rfl rfl (by decide) ?_
  refine pv_topv2 (y := 0) (by decide) ?_
  refine pv_if_eq (pc := 14) (tgt := 34) dX11_isUnder_14 (by decide) (fun _ => ?_) (fun q => absurd q (by decide))
  refine pv_iload_2 (pc := 34) dX11_isUnder_34 ?_
  refine pv_iload_1 (pc := 35) dX11_isUnder_35 ?_
  refine pv_icmp_ne (pc := 36) (tgt := 43) dX11_isUnder_36 (by decide) (fun _ => ?_) (fun q => absurd q (by decide))
  refine pv_iconst (pc := 43) (v := 0) dX11_isUnder_43 (by decide) ?_
  refine pv_iret (pc := 44) dX11_isUnder_44 rfl rfl ?_
  exact ⟨rfl, rfl, rfl, rfl, rfl⟩

set_option maxRecDepth 100000 in
set_option maxHeartbeats 4000000 in
theorem c_un_2_4 {G : pv_G} {d : Nat} {t : pv_T} {I : pv_I} {L : pv_L} {Rf : pv_R} (hd : 1 ≤ d) : pv_Mt G mX11_isUnder d 0 0 [.int 2, .int 4] t I L Rf (pv_is (some (.int (pv_b (x_un 2 4)))) t I L Rf) := by
  refine pv_mt mgX11_isUnder.2.2.2.2.2 [.int 2, .int 4, .retAddr 0, .retAddr 0] rfl (Nat.le_of_ble_eq_true rfl) ?_
  refine pv_know (fun hq => ?_)
  have hab : t.1 1 = some (.inl (.int, 7)) := (hq 1 (by decide)).1
  have hav : ∀ j, j < 7 → I 1 j = pv_above j := (hq 1 (by decide)).2 _ rfl
  refine pv_iload_0 (pc := 0) dX11_isUnder_0 ?_
  refine pv_istore_2 (pc := 1) dX11_isUnder_1 (by decide) rfl ?_
  refine pv_iconst (pc := 2) (v := 0) dX11_isUnder_2 (by decide) ?_
  refine pv_istore_3 (pc := 3) dX11_isUnder_3 (by decide) rfl ?_
  refine pv_iload_3 (pc := 4) dX11_isUnder_4 ?_
  refine pv_bipush (pc := 5) (v := 7) dX11_isUnder_5 (by decide) ?_
  refine pv_icmp_ge (pc := 7) (tgt := 34) dX11_isUnder_7 (by decide) (fun q => absurd q (by decide)) (fun _ => ?_)
  refine pv_iload_2 (pc := 10) dX11_isUnder_10 ?_
  refine pv_callS1 (pc := 11) dX11_isUnder_11 mgX11_isKind ls_X11_129 (by omega) (c_X11_isKind ) rfl rfl (by decide) ?_
  refine pv_topv2 (y := 1) (by decide) ?_
  refine pv_if_eq (pc := 14) (tgt := 34) dX11_isUnder_14 (by decide) (fun q => absurd q (by decide)) (fun _ => ?_)
  refine pv_iload_2 (pc := 17) dX11_isUnder_17 ?_
  refine pv_iload_1 (pc := 18) dX11_isUnder_18 ?_
  refine pv_icmp_eq (pc := 19) (tgt := 34) dX11_isUnder_19 (by decide) (fun q => absurd q (by decide)) (fun _ => ?_)
  refine pv_gsAbove (pc := 22) dX11_isUnder_22 sl_X11_345 ?_
  refine pv_iload_2 (pc := 25) dX11_isUnder_25 ?_
  refine pv_ialoadj (pc := 26) dX11_isUnder_26 hab (j := 2) (by decide) (by unfold vp_in; decide) ?_
  refine pv_topv2 (y := 1) (by rw [hav _ (by decide)]; decide) ?_
  refine pv_istore_2 (pc := 27) dX11_isUnder_27 (by decide) rfl ?_
  refine pv_iinc_3 (pc := 28) (v := 1) dX11_isUnder_28 (by decide) (by decide) rfl ?_
  refine pv_goto (pc := 31) (tgt := 4) dX11_isUnder_31 (by decide) ?_
  refine pv_iload_3 (pc := 4) dX11_isUnder_4 ?_
  refine pv_bipush (pc := 5) (v := 7) dX11_isUnder_5 (by decide) ?_
  refine pv_icmp_ge (pc := 7) (tgt := 34) dX11_isUnder_7 (by decide) (fun q => absurd q (by decide)) (fun _ => ?_)
  refine pv_iload_2 (pc := 10) dX11_isUnder_10 ?_
  refine pv_callS1 (pc := 11) dX11_isUnder_11 mgX11_isKind ls_X11_129 (by omega) (c_X11_isKind ) rfl rfl (by decide) ?_
  refine pv_topv2 (y := 1) (by decide) ?_
  refine pv_if_eq (pc := 14) (tgt := 34) dX11_isUnder_14 (by decide) (fun q => absurd q (by decide)) (fun _ => ?_)
  refine pv_iload_2 (pc := 17) dX11_isUnder_17 ?_
  refine pv_iload_1 (pc := 18) dX11_isUnder_18 ?_
  refine pv_icmp_eq (pc := 19) (tgt := 34) dX11_isUnder_19 (by decide) (fun q => absurd q (by decide)) (fun _ => ?_)
  refine pv_gsAbove (pc := 22) dX11_isUnder_22 sl_X11_345 ?_
  refine pv_iload_2 (pc := 25) dX11_isUnder_25 ?_
  refine pv_ialoadj (pc := 26) dX11_isUnder_26 hab (j := 1) (by decide) (by unfold vp_in; decide) ?_
  refine pv_topv2 (y := 0) (by rw [hav _ (by decide)]; decide) ?_
  refine pv_istore_2 (pc := 27) dX11_isUnder_27 (by decide) rfl ?_
  refine pv_iinc_3 (pc := 28) (v := 2) dX11_isUnder_28 (by decide) (by decide) rfl ?_
  refine pv_goto (pc := 31) (tgt := 4) dX11_isUnder_31 (by decide) ?_
  refine pv_iload_3 (pc := 4) dX11_isUnder_4 ?_
  refine pv_bipush (pc := 5) (v := 7) dX11_isUnder_5 (by decide) ?_
  refine pv_icmp_ge (pc := 7) (tgt := 34) dX11_isUnder_7 (by decide) (fun q => absurd q (by decide)) (fun _ => ?_)
  refine pv_iload_2 (pc := 10) dX11_isUnder_10 ?_
  refine pv_callS1 (pc := 11) dX11_isUnder_11 mgX11_isKind ls_X11_129 (by omega) (c_X11_isKind ) rfl rfl (by decide) ?_
  refine pv_topv2 (y := 1) (by decide) ?_
  refine pv_if_eq (pc := 14) (tgt := 34) dX11_isUnder_14 (by decide) (fun q => absurd q (by decide)) (fun _ => ?_)
  refine pv_iload_2 (pc := 17) dX11_isUnder_17 ?_
  refine pv_iload_1 (pc := 18) dX11_isUnder_18 ?_
  refine pv_icmp_eq (pc := 19) (tgt := 34) dX11_isUnder_19 (by decide) (fun q => absurd q (by decide)) (fun _ => ?_)
  refine pv_gsAbove (pc := 22) dX11_isUnder_22 sl_X11_345 ?_
  refine pv_iload_2 (pc := 25) dX11_isUnder_25 ?_
  refine pv_ialoadj (pc := 26) dX11_isUnder_26 hab (j := 0) (by decide) (by unfold vp_in; decide) ?_
  refine pv_topv2 (y := (-1)) (by rw [hav _ (by decide)]; decide) ?_
  refine pv_istore_2 (pc := 27) dX11_isUnder_27 (by decide) rfl ?_
  refine pv_iinc_3 (pc := 28) (v := 3) dX11_isUnder_28 (by decide) (by decide) rfl ?_
  refine pv_goto (pc := 31) (tgt := 4) dX11_isUnder_31 (by decide) ?_
  refine pv_iload_3 (pc := 4) dX11_isUnder_4 ?_
  refine pv_bipush (pc := 5) (v := 7) dX11_isUnder_5 (by decide) ?_
  refine pv_icmp_ge (pc := 7) (tgt := 34) dX11_isUnder_7 (by decide) (fun q => absurd q (by decide)) (fun _ => ?_)
  refine pv_iload_2 (pc := 10) dX11_isUnder_10 ?_
  refine pv_callS1 (pc := 11) dX11_isUnder_11 mgX11_isKind ls_X11_129 (by omega) (c_X11_isKind ) rfl rfl (by decide) ?_
  refine pv_topv2 (y := 0) (by decide) ?_
  refine pv_if_eq (pc := 14) (tgt := 34) dX11_isUnder_14 (by decide) (fun _ => ?_) (fun q => absurd q (by decide))
  refine pv_iload_2 (pc := 34) dX11_isUnder_34 ?_
  refine pv_iload_1 (pc := 35) dX11_isUnder_35 ?_
  refine pv_icmp_ne (pc := 36) (tgt := 43) dX11_isUnder_36 (by decide) (fun _ => ?_) (fun q => absurd q (by decide))
  refine pv_iconst (pc := 43) (v := 0) dX11_isUnder_43 (by decide) ?_
  refine pv_iret (pc := 44) dX11_isUnder_44 rfl rfl ?_
  exact ⟨rfl, rfl, rfl, rfl, rfl⟩

set_option maxRecDepth 100000 in
set_option maxHeartbeats 4000000 in
theorem c_un_2_5 {G : pv_G} {d : Nat} {t : pv_T} {I : pv_I} {L : pv_L} {Rf : pv_R} (hd : 1 ≤ d) : pv_Mt G mX11_isUnder d 0 0 [.int 2, .int 5] t I L Rf (pv_is (some (.int (pv_b (x_un 2 5)))) t I L Rf) := by
  refine pv_mt mgX11_isUnder.2.2.2.2.2 [.int 2, .int 5, .retAddr 0, .retAddr 0] rfl (Nat.le_of_ble_eq_true rfl) ?_
  refine pv_know (fun hq => ?_)
  have hab : t.1 1 = some (.inl (.int, 7)) := (hq 1 (by decide)).1
  have hav : ∀ j, j < 7 → I 1 j = pv_above j := (hq 1 (by decide)).2 _ rfl
  refine pv_iload_0 (pc := 0) dX11_isUnder_0 ?_
  refine pv_istore_2 (pc := 1) dX11_isUnder_1 (by decide) rfl ?_
  refine pv_iconst (pc := 2) (v := 0) dX11_isUnder_2 (by decide) ?_
  refine pv_istore_3 (pc := 3) dX11_isUnder_3 (by decide) rfl ?_
  refine pv_iload_3 (pc := 4) dX11_isUnder_4 ?_
  refine pv_bipush (pc := 5) (v := 7) dX11_isUnder_5 (by decide) ?_
  refine pv_icmp_ge (pc := 7) (tgt := 34) dX11_isUnder_7 (by decide) (fun q => absurd q (by decide)) (fun _ => ?_)
  refine pv_iload_2 (pc := 10) dX11_isUnder_10 ?_
  refine pv_callS1 (pc := 11) dX11_isUnder_11 mgX11_isKind ls_X11_129 (by omega) (c_X11_isKind ) rfl rfl (by decide) ?_
  refine pv_topv2 (y := 1) (by decide) ?_
  refine pv_if_eq (pc := 14) (tgt := 34) dX11_isUnder_14 (by decide) (fun q => absurd q (by decide)) (fun _ => ?_)
  refine pv_iload_2 (pc := 17) dX11_isUnder_17 ?_
  refine pv_iload_1 (pc := 18) dX11_isUnder_18 ?_
  refine pv_icmp_eq (pc := 19) (tgt := 34) dX11_isUnder_19 (by decide) (fun q => absurd q (by decide)) (fun _ => ?_)
  refine pv_gsAbove (pc := 22) dX11_isUnder_22 sl_X11_345 ?_
  refine pv_iload_2 (pc := 25) dX11_isUnder_25 ?_
  refine pv_ialoadj (pc := 26) dX11_isUnder_26 hab (j := 2) (by decide) (by unfold vp_in; decide) ?_
  refine pv_topv2 (y := 1) (by rw [hav _ (by decide)]; decide) ?_
  refine pv_istore_2 (pc := 27) dX11_isUnder_27 (by decide) rfl ?_
  refine pv_iinc_3 (pc := 28) (v := 1) dX11_isUnder_28 (by decide) (by decide) rfl ?_
  refine pv_goto (pc := 31) (tgt := 4) dX11_isUnder_31 (by decide) ?_
  refine pv_iload_3 (pc := 4) dX11_isUnder_4 ?_
  refine pv_bipush (pc := 5) (v := 7) dX11_isUnder_5 (by decide) ?_
  refine pv_icmp_ge (pc := 7) (tgt := 34) dX11_isUnder_7 (by decide) (fun q => absurd q (by decide)) (fun _ => ?_)
  refine pv_iload_2 (pc := 10) dX11_isUnder_10 ?_
  refine pv_callS1 (pc := 11) dX11_isUnder_11 mgX11_isKind ls_X11_129 (by omega) (c_X11_isKind ) rfl rfl (by decide) ?_
  refine pv_topv2 (y := 1) (by decide) ?_
  refine pv_if_eq (pc := 14) (tgt := 34) dX11_isUnder_14 (by decide) (fun q => absurd q (by decide)) (fun _ => ?_)
  refine pv_iload_2 (pc := 17) dX11_isUnder_17 ?_
  refine pv_iload_1 (pc := 18) dX11_isUnder_18 ?_
  refine pv_icmp_eq (pc := 19) (tgt := 34) dX11_isUnder_19 (by decide) (fun q => absurd q (by decide)) (fun _ => ?_)
  refine pv_gsAbove (pc := 22) dX11_isUnder_22 sl_X11_345 ?_
  refine pv_iload_2 (pc := 25) dX11_isUnder_25 ?_
  refine pv_ialoadj (pc := 26) dX11_isUnder_26 hab (j := 1) (by decide) (by unfold vp_in; decide) ?_
  refine pv_topv2 (y := 0) (by rw [hav _ (by decide)]; decide) ?_
  refine pv_istore_2 (pc := 27) dX11_isUnder_27 (by decide) rfl ?_
  refine pv_iinc_3 (pc := 28) (v := 2) dX11_isUnder_28 (by decide) (by decide) rfl ?_
  refine pv_goto (pc := 31) (tgt := 4) dX11_isUnder_31 (by decide) ?_
  refine pv_iload_3 (pc := 4) dX11_isUnder_4 ?_
  refine pv_bipush (pc := 5) (v := 7) dX11_isUnder_5 (by decide) ?_
  refine pv_icmp_ge (pc := 7) (tgt := 34) dX11_isUnder_7 (by decide) (fun q => absurd q (by decide)) (fun _ => ?_)
  refine pv_iload_2 (pc := 10) dX11_isUnder_10 ?_
  refine pv_callS1 (pc := 11) dX11_isUnder_11 mgX11_isKind ls_X11_129 (by omega) (c_X11_isKind ) rfl rfl (by decide) ?_
  refine pv_topv2 (y := 1) (by decide) ?_
  refine pv_if_eq (pc := 14) (tgt := 34) dX11_isUnder_14 (by decide) (fun q => absurd q (by decide)) (fun _ => ?_)
  refine pv_iload_2 (pc := 17) dX11_isUnder_17 ?_
  refine pv_iload_1 (pc := 18) dX11_isUnder_18 ?_
  refine pv_icmp_eq (pc := 19) (tgt := 34) dX11_isUnder_19 (by decide) (fun q => absurd q (by decide)) (fun _ => ?_)
  refine pv_gsAbove (pc := 22) dX11_isUnder_22 sl_X11_345 ?_
  refine pv_iload_2 (pc := 25) dX11_isUnder_25 ?_
  refine pv_ialoadj (pc := 26) dX11_isUnder_26 hab (j := 0) (by decide) (by unfold vp_in; decide) ?_
  refine pv_topv2 (y := (-1)) (by rw [hav _ (by decide)]; decide) ?_
  refine pv_istore_2 (pc := 27) dX11_isUnder_27 (by decide) rfl ?_
  refine pv_iinc_3 (pc := 28) (v := 3) dX11_isUnder_28 (by decide) (by decide) rfl ?_
  refine pv_goto (pc := 31) (tgt := 4) dX11_isUnder_31 (by decide) ?_
  refine pv_iload_3 (pc := 4) dX11_isUnder_4 ?_
  refine pv_bipush (pc := 5) (v := 7) dX11_isUnder_5 (by decide) ?_
  refine pv_icmp_ge (pc := 7) (tgt := 34) dX11_isUnder_7 (by decide) (fun q => absurd q (by decide)) (fun _ => ?_)
  refine pv_iload_2 (pc := 10) dX11_isUnder_10 ?_
  refine pv_callS1 (pc := 11) dX11_isUnder_11 mgX11_isKind ls_X11_129 (by omega) (c_X11_isKind ) rfl rfl (by decide) ?_
  refine pv_topv2 (y := 0) (by decide) ?_
  refine pv_if_eq (pc := 14) (tgt := 34) dX11_isUnder_14 (by decide) (fun _ => ?_) (fun q => absurd q (by decide))
  refine pv_iload_2 (pc := 34) dX11_isUnder_34 ?_
  refine pv_iload_1 (pc := 35) dX11_isUnder_35 ?_
  refine pv_icmp_ne (pc := 36) (tgt := 43) dX11_isUnder_36 (by decide) (fun _ => ?_) (fun q => absurd q (by decide))
  refine pv_iconst (pc := 43) (v := 0) dX11_isUnder_43 (by decide) ?_
  refine pv_iret (pc := 44) dX11_isUnder_44 rfl rfl ?_
  exact ⟨rfl, rfl, rfl, rfl, rfl⟩

set_option maxRecDepth 100000 in
set_option maxHeartbeats 4000000 in
theorem c_un_2_6 {G : pv_G} {d : Nat} {t : pv_T} {I : pv_I} {L : pv_L} {Rf : pv_R} (hd : 1 ≤ d) : pv_Mt G mX11_isUnder d 0 0 [.int 2, .int 6] t I L Rf (pv_is (some (.int (pv_b (x_un 2 6)))) t I L Rf) := by
  refine pv_mt mgX11_isUnder.2.2.2.2.2 [.int 2, .int 6, .retAddr 0, .retAddr 0] rfl (Nat.le_of_ble_eq_true rfl) ?_
  refine pv_know (fun hq => ?_)
  have hab : t.1 1 = some (.inl (.int, 7)) := (hq 1 (by decide)).1
  have hav : ∀ j, j < 7 → I 1 j = pv_above j := (hq 1 (by decide)).2 _ rfl
  refine pv_iload_0 (pc := 0) dX11_isUnder_0 ?_
  refine pv_istore_2 (pc := 1) dX11_isUnder_1 (by decide) rfl ?_
  refine pv_iconst (pc := 2) (v := 0) dX11_isUnder_2 (by decide) ?_
  refine pv_istore_3 (pc := 3) dX11_isUnder_3 (by decide) rfl ?_
  refine pv_iload_3 (pc := 4) dX11_isUnder_4 ?_
  refine pv_bipush (pc := 5) (v := 7) dX11_isUnder_5 (by decide) ?_
  refine pv_icmp_ge (pc := 7) (tgt := 34) dX11_isUnder_7 (by decide) (fun q => absurd q (by decide)) (fun _ => ?_)
  refine pv_iload_2 (pc := 10) dX11_isUnder_10 ?_
  refine pv_callS1 (pc := 11) dX11_isUnder_11 mgX11_isKind ls_X11_129 (by omega) (c_X11_isKind ) rfl rfl (by decide) ?_
  refine pv_topv2 (y := 1) (by decide) ?_
  refine pv_if_eq (pc := 14) (tgt := 34) dX11_isUnder_14 (by decide) (fun q => absurd q (by decide)) (fun _ => ?_)
  refine pv_iload_2 (pc := 17) dX11_isUnder_17 ?_
  refine pv_iload_1 (pc := 18) dX11_isUnder_18 ?_
  refine pv_icmp_eq (pc := 19) (tgt := 34) dX11_isUnder_19 (by decide) (fun q => absurd q (by decide)) (fun _ => ?_)
  refine pv_gsAbove (pc := 22) dX11_isUnder_22 sl_X11_345 ?_
  refine pv_iload_2 (pc := 25) dX11_isUnder_25 ?_
  refine pv_ialoadj (pc := 26) dX11_isUnder_26 hab (j := 2) (by decide) (by unfold vp_in; decide) ?_
  refine pv_topv2 (y := 1) (by rw [hav _ (by decide)]; decide) ?_
  refine pv_istore_2 (pc := 27) dX11_isUnder_27 (by decide) rfl ?_
  refine pv_iinc_3 (pc := 28) (v := 1) dX11_isUnder_28 (by decide) (by decide) rfl ?_
  refine pv_goto (pc := 31) (tgt := 4) dX11_isUnder_31 (by decide) ?_
  refine pv_iload_3 (pc := 4) dX11_isUnder_4 ?_
  refine pv_bipush (pc := 5) (v := 7) dX11_isUnder_5 (by decide) ?_
  refine pv_icmp_ge (pc := 7) (tgt := 34) dX11_isUnder_7 (by decide) (fun q => absurd q (by decide)) (fun _ => ?_)
  refine pv_iload_2 (pc := 10) dX11_isUnder_10 ?_
  refine pv_callS1 (pc := 11) dX11_isUnder_11 mgX11_isKind ls_X11_129 (by omega) (c_X11_isKind ) rfl rfl (by decide) ?_
  refine pv_topv2 (y := 1) (by decide) ?_
  refine pv_if_eq (pc := 14) (tgt := 34) dX11_isUnder_14 (by decide) (fun q => absurd q (by decide)) (fun _ => ?_)
  refine pv_iload_2 (pc := 17) dX11_isUnder_17 ?_
  refine pv_iload_1 (pc := 18) dX11_isUnder_18 ?_
  refine pv_icmp_eq (pc := 19) (tgt := 34) dX11_isUnder_19 (by decide) (fun q => absurd q (by decide)) (fun _ => ?_)
  refine pv_gsAbove (pc := 22) dX11_isUnder_22 sl_X11_345 ?_
  refine pv_iload_2 (pc := 25) dX11_isUnder_25 ?_
  refine pv_ialoadj (pc := 26) dX11_isUnder_26 hab (j := 1) (by decide) (by unfold vp_in; decide) ?_
  refine pv_topv2 (y := 0) (by rw [hav _ (by decide)]; decide) ?_
  refine pv_istore_2 (pc := 27) dX11_isUnder_27 (by decide) rfl ?_
  refine pv_iinc_3 (pc := 28) (v := 2) dX11_isUnder_28 (by decide) (by decide) rfl ?_
  refine pv_goto (pc := 31) (tgt := 4) dX11_isUnder_31 (by decide) ?_
  refine pv_iload_3 (pc := 4) dX11_isUnder_4 ?_
  refine pv_bipush (pc := 5) (v := 7) dX11_isUnder_5 (by decide) ?_
  refine pv_icmp_ge (pc := 7) (tgt := 34) dX11_isUnder_7 (by decide) (fun q => absurd q (by decide)) (fun _ => ?_)
  refine pv_iload_2 (pc := 10) dX11_isUnder_10 ?_
  refine pv_callS1 (pc := 11) dX11_isUnder_11 mgX11_isKind ls_X11_129 (by omega) (c_X11_isKind ) rfl rfl (by decide) ?_
  refine pv_topv2 (y := 1) (by decide) ?_
  refine pv_if_eq (pc := 14) (tgt := 34) dX11_isUnder_14 (by decide) (fun q => absurd q (by decide)) (fun _ => ?_)
  refine pv_iload_2 (pc := 17) dX11_isUnder_17 ?_
  refine pv_iload_1 (pc := 18) dX11_isUnder_18 ?_
  refine pv_icmp_eq (pc := 19) (tgt := 34) dX11_isUnder_19 (by decide) (fun q => absurd q (by decide)) (fun _ => ?_)
  refine pv_gsAbove (pc := 22) dX11_isUnder_22 sl_X11_345 ?_
  refine pv_iload_2 (pc := 25) dX11_isUnder_25 ?_
  refine pv_ialoadj (pc := 26) dX11_isUnder_26 hab (j := 0) (by decide) (by unfold vp_in; decide) ?_
  refine pv_topv2 (y := (-1)) (by rw [hav _ (by decide)]; decide) ?_
  refine pv_istore_2 (pc := 27) dX11_isUnder_27 (by decide) rfl ?_
  refine pv_iinc_3 (pc := 28) (v := 3) dX11_isUnder_28 (by decide) (by decide) rfl ?_
  refine pv_goto (pc := 31) (tgt := 4) dX11_isUnder_31 (by decide) ?_
  refine pv_iload_3 (pc := 4) dX11_isUnder_4 ?_
  refine pv_bipush (pc := 5) (v := 7) dX11_isUnder_5 (by decide) ?_
  refine pv_icmp_ge (pc := 7) (tgt := 34) dX11_isUnder_7 (by decide) (fun q => absurd q (by decide)) (fun _ => ?_)
  refine pv_iload_2 (pc := 10) dX11_isUnder_10 ?_
  refine pv_callS1 (pc := 11) dX11_isUnder_11 mgX11_isKind ls_X11_129 (by omega) (c_X11_isKind ) rfl rfl (by decide) ?_
  refine pv_topv2 (y := 0) (by decide) ?_
  refine pv_if_eq (pc := 14) (tgt := 34) dX11_isUnder_14 (by decide) (fun _ => ?_) (fun q => absurd q (by decide))
  refine pv_iload_2 (pc := 34) dX11_isUnder_34 ?_
  refine pv_iload_1 (pc := 35) dX11_isUnder_35 ?_
  refine pv_icmp_ne (pc := 36) (tgt := 43) dX11_isUnder_36 (by decide) (fun _ => ?_) (fun q => absurd q (by decide))
  refine pv_iconst (pc := 43) (v := 0) dX11_isUnder_43 (by decide) ?_
  refine pv_iret (pc := 44) dX11_isUnder_44 rfl rfl ?_
  exact ⟨rfl, rfl, rfl, rfl, rfl⟩

set_option maxRecDepth 100000 in
set_option maxHeartbeats 4000000 in
theorem c_un_3_0 {G : pv_G} {d : Nat} {t : pv_T} {I : pv_I} {L : pv_L} {Rf : pv_R} (hd : 1 ≤ d) : pv_Mt G mX11_isUnder d 0 0 [.int 3, .int 0] t I L Rf (pv_is (some (.int (pv_b (x_un 3 0)))) t I L Rf) := by
  refine pv_mt mgX11_isUnder.2.2.2.2.2 [.int 3, .int 0, .retAddr 0, .retAddr 0] rfl (Nat.le_of_ble_eq_true rfl) ?_
  refine pv_know (fun hq => ?_)
  have hab : t.1 1 = some (.inl (.int, 7)) := (hq 1 (by decide)).1
  have hav : ∀ j, j < 7 → I 1 j = pv_above j := (hq 1 (by decide)).2 _ rfl
  refine pv_iload_0 (pc := 0) dX11_isUnder_0 ?_
  refine pv_istore_2 (pc := 1) dX11_isUnder_1 (by decide) rfl ?_
  refine pv_iconst (pc := 2) (v := 0) dX11_isUnder_2 (by decide) ?_
  refine pv_istore_3 (pc := 3) dX11_isUnder_3 (by decide) rfl ?_
  refine pv_iload_3 (pc := 4) dX11_isUnder_4 ?_
  refine pv_bipush (pc := 5) (v := 7) dX11_isUnder_5 (by decide) ?_
  refine pv_icmp_ge (pc := 7) (tgt := 34) dX11_isUnder_7 (by decide) (fun q => absurd q (by decide)) (fun _ => ?_)
  refine pv_iload_2 (pc := 10) dX11_isUnder_10 ?_
  refine pv_callS1 (pc := 11) dX11_isUnder_11 mgX11_isKind ls_X11_129 (by omega) (c_X11_isKind ) rfl rfl (by decide) ?_
  refine pv_topv2 (y := 1) (by decide) ?_
  refine pv_if_eq (pc := 14) (tgt := 34) dX11_isUnder_14 (by decide) (fun q => absurd q (by decide)) (fun _ => ?_)
  refine pv_iload_2 (pc := 17) dX11_isUnder_17 ?_
  refine pv_iload_1 (pc := 18) dX11_isUnder_18 ?_
  refine pv_icmp_eq (pc := 19) (tgt := 34) dX11_isUnder_19 (by decide) (fun q => absurd q (by decide)) (fun _ => ?_)
  refine pv_gsAbove (pc := 22) dX11_isUnder_22 sl_X11_345 ?_
  refine pv_iload_2 (pc := 25) dX11_isUnder_25 ?_
  refine pv_ialoadj (pc := 26) dX11_isUnder_26 hab (j := 3) (by decide) (by unfold vp_in; decide) ?_
  refine pv_topv2 (y := 1) (by rw [hav _ (by decide)]; decide) ?_
  refine pv_istore_2 (pc := 27) dX11_isUnder_27 (by decide) rfl ?_
  refine pv_iinc_3 (pc := 28) (v := 1) dX11_isUnder_28 (by decide) (by decide) rfl ?_
  refine pv_goto (pc := 31) (tgt := 4) dX11_isUnder_31 (by decide) ?_
  refine pv_iload_3 (pc := 4) dX11_isUnder_4 ?_
  refine pv_bipush (pc := 5) (v := 7) dX11_isUnder_5 (by decide) ?_
  refine pv_icmp_ge (pc := 7) (tgt := 34) dX11_isUnder_7 (by decide) (fun q => absurd q (by decide)) (fun _ => ?_)
  refine pv_iload_2 (pc := 10) dX11_isUnder_10 ?_
  refine pv_callS1 (pc := 11) dX11_isUnder_11 mgX11_isKind ls_X11_129 (by omega) (c_X11_isKind ) rfl rfl (by decide) ?_
  refine pv_topv2 (y := 1) (by decide) ?_
  refine pv_if_eq (pc := 14) (tgt := 34) dX11_isUnder_14 (by decide) (fun q => absurd q (by decide)) (fun _ => ?_)
  refine pv_iload_2 (pc := 17) dX11_isUnder_17 ?_
  refine pv_iload_1 (pc := 18) dX11_isUnder_18 ?_
  refine pv_icmp_eq (pc := 19) (tgt := 34) dX11_isUnder_19 (by decide) (fun q => absurd q (by decide)) (fun _ => ?_)
  refine pv_gsAbove (pc := 22) dX11_isUnder_22 sl_X11_345 ?_
  refine pv_iload_2 (pc := 25) dX11_isUnder_25 ?_
  refine pv_ialoadj (pc := 26) dX11_isUnder_26 hab (j := 1) (by decide) (by unfold vp_in; decide) ?_
  refine pv_topv2 (y := 0) (by rw [hav _ (by decide)]; decide) ?_
  refine pv_istore_2 (pc := 27) dX11_isUnder_27 (by decide) rfl ?_
  refine pv_iinc_3 (pc := 28) (v := 2) dX11_isUnder_28 (by decide) (by decide) rfl ?_
  refine pv_goto (pc := 31) (tgt := 4) dX11_isUnder_31 (by decide) ?_
  refine pv_iload_3 (pc := 4) dX11_isUnder_4 ?_
  refine pv_bipush (pc := 5) (v := 7) dX11_isUnder_5 (by decide) ?_
  refine pv_icmp_ge (pc := 7) (tgt := 34) dX11_isUnder_7 (by decide) (fun q => absurd q (by decide)) (fun _ => ?_)
  refine pv_iload_2 (pc := 10) dX11_isUnder_10 ?_
  refine pv_callS1 (pc := 11) dX11_isUnder_11 mgX11_isKind ls_X11_129 (by omega) (c_X11_isKind ) rfl rfl (by decide) ?_
  refine pv_topv2 (y := 1) (by decide) ?_
  refine pv_if_eq (pc := 14) (tgt := 34) dX11_isUnder_14 (by decide) (fun q => absurd q (by decide)) (fun _ => ?_)
  refine pv_iload_2 (pc := 17) dX11_isUnder_17 ?_
  refine pv_iload_1 (pc := 18) dX11_isUnder_18 ?_
  refine pv_icmp_eq (pc := 19) (tgt := 34) dX11_isUnder_19 (by decide) (fun _ => ?_) (fun q => absurd q (by decide))
  refine pv_iload_2 (pc := 34) dX11_isUnder_34 ?_
  refine pv_iload_1 (pc := 35) dX11_isUnder_35 ?_
  refine pv_icmp_ne (pc := 36) (tgt := 43) dX11_isUnder_36 (by decide) (fun q => absurd q (by decide)) (fun _ => ?_)
  refine pv_iconst (pc := 39) (v := 1) dX11_isUnder_39 (by decide) ?_
  refine pv_goto (pc := 40) (tgt := 44) dX11_isUnder_40 (by decide) ?_
  refine pv_iret (pc := 44) dX11_isUnder_44 rfl rfl ?_
  exact ⟨rfl, rfl, rfl, rfl, rfl⟩

set_option maxRecDepth 100000 in
set_option maxHeartbeats 4000000 in
theorem c_un_3_1 {G : pv_G} {d : Nat} {t : pv_T} {I : pv_I} {L : pv_L} {Rf : pv_R} (hd : 1 ≤ d) : pv_Mt G mX11_isUnder d 0 0 [.int 3, .int 1] t I L Rf (pv_is (some (.int (pv_b (x_un 3 1)))) t I L Rf) := by
  refine pv_mt mgX11_isUnder.2.2.2.2.2 [.int 3, .int 1, .retAddr 0, .retAddr 0] rfl (Nat.le_of_ble_eq_true rfl) ?_
  refine pv_know (fun hq => ?_)
  have hab : t.1 1 = some (.inl (.int, 7)) := (hq 1 (by decide)).1
  have hav : ∀ j, j < 7 → I 1 j = pv_above j := (hq 1 (by decide)).2 _ rfl
  refine pv_iload_0 (pc := 0) dX11_isUnder_0 ?_
  refine pv_istore_2 (pc := 1) dX11_isUnder_1 (by decide) rfl ?_
  refine pv_iconst (pc := 2) (v := 0) dX11_isUnder_2 (by decide) ?_
  refine pv_istore_3 (pc := 3) dX11_isUnder_3 (by decide) rfl ?_
  refine pv_iload_3 (pc := 4) dX11_isUnder_4 ?_
  refine pv_bipush (pc := 5) (v := 7) dX11_isUnder_5 (by decide) ?_
  refine pv_icmp_ge (pc := 7) (tgt := 34) dX11_isUnder_7 (by decide) (fun q => absurd q (by decide)) (fun _ => ?_)
  refine pv_iload_2 (pc := 10) dX11_isUnder_10 ?_
  refine pv_callS1 (pc := 11) dX11_isUnder_11 mgX11_isKind ls_X11_129 (by omega) (c_X11_isKind ) rfl rfl (by decide) ?_
  refine pv_topv2 (y := 1) (by decide) ?_
  refine pv_if_eq (pc := 14) (tgt := 34) dX11_isUnder_14 (by decide) (fun q => absurd q (by decide)) (fun _ => ?_)
  refine pv_iload_2 (pc := 17) dX11_isUnder_17 ?_
  refine pv_iload_1 (pc := 18) dX11_isUnder_18 ?_
  refine pv_icmp_eq (pc := 19) (tgt := 34) dX11_isUnder_19 (by decide) (fun q => absurd q (by decide)) (fun _ => ?_)
  refine pv_gsAbove (pc := 22) dX11_isUnder_22 sl_X11_345 ?_
  refine pv_iload_2 (pc := 25) dX11_isUnder_25 ?_
  refine pv_ialoadj (pc := 26) dX11_isUnder_26 hab (j := 3) (by decide) (by unfold vp_in; decide) ?_
  refine pv_topv2 (y := 1) (by rw [hav _ (by decide)]; decide) ?_
  refine pv_istore_2 (pc := 27) dX11_isUnder_27 (by decide) rfl ?_
  refine pv_iinc_3 (pc := 28) (v := 1) dX11_isUnder_28 (by decide) (by decide) rfl ?_
  refine pv_goto (pc := 31) (tgt := 4) dX11_isUnder_31 (by decide) ?_
  refine pv_iload_3 (pc := 4) dX11_isUnder_4 ?_
  refine pv_bipush (pc := 5) (v := 7) dX11_isUnder_5 (by decide) ?_
  refine pv_icmp_ge (pc := 7) (tgt := 34) dX11_isUnder_7 (by decide) (fun q => absurd q (by decide)) (fun _ => ?_)
  refine pv_iload_2 (pc := 10) dX11_isUnder_10 ?_
  refine pv_callS1 (pc := 11) dX11_isUnder_11 mgX11_isKind ls_X11_129 (by omega) (c_X11_isKind ) rfl rfl (by decide) ?_
  refine pv_topv2 (y := 1) (by decide) ?_
  refine pv_if_eq (pc := 14) (tgt := 34) dX11_isUnder_14 (by decide) (fun q => absurd q (by decide)) (fun _ => ?_)
  refine pv_iload_2 (pc := 17) dX11_isUnder_17 ?_
  refine pv_iload_1 (pc := 18) dX11_isUnder_18 ?_
  refine pv_icmp_eq (pc := 19) (tgt := 34) dX11_isUnder_19 (by decide) (fun _ => ?_) (fun q => absurd q (by decide))
  refine pv_iload_2 (pc := 34) dX11_isUnder_34 ?_
  refine pv_iload_1 (pc := 35) dX11_isUnder_35 ?_
  refine pv_icmp_ne (pc := 36) (tgt := 43) dX11_isUnder_36 (by decide) (fun q => absurd q (by decide)) (fun _ => ?_)
  refine pv_iconst (pc := 39) (v := 1) dX11_isUnder_39 (by decide) ?_
  refine pv_goto (pc := 40) (tgt := 44) dX11_isUnder_40 (by decide) ?_
  refine pv_iret (pc := 44) dX11_isUnder_44 rfl rfl ?_
  exact ⟨rfl, rfl, rfl, rfl, rfl⟩

set_option maxRecDepth 100000 in
set_option maxHeartbeats 4000000 in
theorem c_un_3_2 {G : pv_G} {d : Nat} {t : pv_T} {I : pv_I} {L : pv_L} {Rf : pv_R} (hd : 1 ≤ d) : pv_Mt G mX11_isUnder d 0 0 [.int 3, .int 2] t I L Rf (pv_is (some (.int (pv_b (x_un 3 2)))) t I L Rf) := by
  refine pv_mt mgX11_isUnder.2.2.2.2.2 [.int 3, .int 2, .retAddr 0, .retAddr 0] rfl (Nat.le_of_ble_eq_true rfl) ?_
  refine pv_know (fun hq => ?_)
  have hab : t.1 1 = some (.inl (.int, 7)) := (hq 1 (by decide)).1
  have hav : ∀ j, j < 7 → I 1 j = pv_above j := (hq 1 (by decide)).2 _ rfl
  refine pv_iload_0 (pc := 0) dX11_isUnder_0 ?_
  refine pv_istore_2 (pc := 1) dX11_isUnder_1 (by decide) rfl ?_
  refine pv_iconst (pc := 2) (v := 0) dX11_isUnder_2 (by decide) ?_
  refine pv_istore_3 (pc := 3) dX11_isUnder_3 (by decide) rfl ?_
  refine pv_iload_3 (pc := 4) dX11_isUnder_4 ?_
  refine pv_bipush (pc := 5) (v := 7) dX11_isUnder_5 (by decide) ?_
  refine pv_icmp_ge (pc := 7) (tgt := 34) dX11_isUnder_7 (by decide) (fun q => absurd q (by decide)) (fun _ => ?_)
  refine pv_iload_2 (pc := 10) dX11_isUnder_10 ?_
  refine pv_callS1 (pc := 11) dX11_isUnder_11 mgX11_isKind ls_X11_129 (by omega) (c_X11_isKind ) rfl rfl (by decide) ?_
  refine pv_topv2 (y := 1) (by decide) ?_
  refine pv_if_eq (pc := 14) (tgt := 34) dX11_isUnder_14 (by decide) (fun q => absurd q (by decide)) (fun _ => ?_)
  refine pv_iload_2 (pc := 17) dX11_isUnder_17 ?_
  refine pv_iload_1 (pc := 18) dX11_isUnder_18 ?_
  refine pv_icmp_eq (pc := 19) (tgt := 34) dX11_isUnder_19 (by decide) (fun q => absurd q (by decide)) (fun _ => ?_)
  refine pv_gsAbove (pc := 22) dX11_isUnder_22 sl_X11_345 ?_
  refine pv_iload_2 (pc := 25) dX11_isUnder_25 ?_
  refine pv_ialoadj (pc := 26) dX11_isUnder_26 hab (j := 3) (by decide) (by unfold vp_in; decide) ?_
  refine pv_topv2 (y := 1) (by rw [hav _ (by decide)]; decide) ?_
  refine pv_istore_2 (pc := 27) dX11_isUnder_27 (by decide) rfl ?_
  refine pv_iinc_3 (pc := 28) (v := 1) dX11_isUnder_28 (by decide) (by decide) rfl ?_
  refine pv_goto (pc := 31) (tgt := 4) dX11_isUnder_31 (by decide) ?_
  refine pv_iload_3 (pc := 4) dX11_isUnder_4 ?_
  refine pv_bipush (pc := 5) (v := 7) dX11_isUnder_5 (by decide) ?_
  refine pv_icmp_ge (pc := 7) (tgt := 34) dX11_isUnder_7 (by decide) (fun q => absurd q (by decide)) (fun _ => ?_)
  refine pv_iload_2 (pc := 10) dX11_isUnder_10 ?_
  refine pv_callS1 (pc := 11) dX11_isUnder_11 mgX11_isKind ls_X11_129 (by omega) (c_X11_isKind ) rfl rfl (by decide) ?_
  refine pv_topv2 (y := 1) (by decide) ?_
  refine pv_if_eq (pc := 14) (tgt := 34) dX11_isUnder_14 (by decide) (fun q => absurd q (by decide)) (fun _ => ?_)
  refine pv_iload_2 (pc := 17) dX11_isUnder_17 ?_
  refine pv_iload_1 (pc := 18) dX11_isUnder_18 ?_
  refine pv_icmp_eq (pc := 19) (tgt := 34) dX11_isUnder_19 (by decide) (fun q => absurd q (by decide)) (fun _ => ?_)
  refine pv_gsAbove (pc := 22) dX11_isUnder_22 sl_X11_345 ?_
  refine pv_iload_2 (pc := 25) dX11_isUnder_25 ?_
  refine pv_ialoadj (pc := 26) dX11_isUnder_26 hab (j := 1) (by decide) (by unfold vp_in; decide) ?_
  refine pv_topv2 (y := 0) (by rw [hav _ (by decide)]; decide) ?_
  refine pv_istore_2 (pc := 27) dX11_isUnder_27 (by decide) rfl ?_
  refine pv_iinc_3 (pc := 28) (v := 2) dX11_isUnder_28 (by decide) (by decide) rfl ?_
  refine pv_goto (pc := 31) (tgt := 4) dX11_isUnder_31 (by decide) ?_
  refine pv_iload_3 (pc := 4) dX11_isUnder_4 ?_
  refine pv_bipush (pc := 5) (v := 7) dX11_isUnder_5 (by decide) ?_
  refine pv_icmp_ge (pc := 7) (tgt := 34) dX11_isUnder_7 (by decide) (fun q => absurd q (by decide)) (fun _ => ?_)
  refine pv_iload_2 (pc := 10) dX11_isUnder_10 ?_
  refine pv_callS1 (pc := 11) dX11_isUnder_11 mgX11_isKind ls_X11_129 (by omega) (c_X11_isKind ) rfl rfl (by decide) ?_
  refine pv_topv2 (y := 1) (by decide) ?_
  refine pv_if_eq (pc := 14) (tgt := 34) dX11_isUnder_14 (by decide) (fun q => absurd q (by decide)) (fun _ => ?_)
  refine pv_iload_2 (pc := 17) dX11_isUnder_17 ?_
  refine pv_iload_1 (pc := 18) dX11_isUnder_18 ?_
  refine pv_icmp_eq (pc := 19) (tgt := 34) dX11_isUnder_19 (by decide) (fun q => absurd q (by decide)) (fun _ => ?_)
  refine pv_gsAbove (pc := 22) dX11_isUnder_22 sl_X11_345 ?_
  refine pv_iload_2 (pc := 25) dX11_isUnder_25 ?_
  refine pv_ialoadj (pc := 26) dX11_isUnder_26 hab (j := 0) (by decide) (by unfold vp_in; decide) ?_
  refine pv_topv2 (y := (-1)) (by rw [hav _ (by decide)]; decide) ?_
  refine pv_istore_2 (pc := 27) dX11_isUnder_27 (by decide) rfl ?_
  refine pv_iinc_3 (pc := 28) (v := 3) dX11_isUnder_28 (by decide) (by decide) rfl ?_
  refine pv_goto (pc := 31) (tgt := 4) dX11_isUnder_31 (by decide) ?_
  refine pv_iload_3 (pc := 4) dX11_isUnder_4 ?_
  refine pv_bipush (pc := 5) (v := 7) dX11_isUnder_5 (by decide) ?_
  refine pv_icmp_ge (pc := 7) (tgt := 34) dX11_isUnder_7 (by decide) (fun q => absurd q (by decide)) (fun _ => ?_)
  refine pv_iload_2 (pc := 10) dX11_isUnder_10 ?_
  refine pv_callS1 (pc := 11) dX11_isUnder_11 mgX11_isKind ls_X11_129 (by omega) (c_X11_isKind ) rfl rfl (by decide) ?_
  refine pv_topv2 (y := 0) (by decide) ?_
  refine pv_if_eq (pc := 14) (tgt := 34) dX11_isUnder_14 (by decide) (fun _ => ?_) (fun q => absurd q (by decide))
  refine pv_iload_2 (pc := 34) dX11_isUnder_34 ?_
  refine pv_iload_1 (pc := 35) dX11_isUnder_35 ?_
  refine pv_icmp_ne (pc := 36) (tgt := 43) dX11_isUnder_36 (by decide) (fun _ => ?_) (fun q => absurd q (by decide))
  refine pv_iconst (pc := 43) (v := 0) dX11_isUnder_43 (by decide) ?_
  refine pv_iret (pc := 44) dX11_isUnder_44 rfl rfl ?_
  exact ⟨rfl, rfl, rfl, rfl, rfl⟩

set_option maxRecDepth 100000 in
set_option maxHeartbeats 4000000 in
theorem c_un_3_3 {G : pv_G} {d : Nat} {t : pv_T} {I : pv_I} {L : pv_L} {Rf : pv_R} (hd : 1 ≤ d) : pv_Mt G mX11_isUnder d 0 0 [.int 3, .int 3] t I L Rf (pv_is (some (.int (pv_b (x_un 3 3)))) t I L Rf) := by
  refine pv_mt mgX11_isUnder.2.2.2.2.2 [.int 3, .int 3, .retAddr 0, .retAddr 0] rfl (Nat.le_of_ble_eq_true rfl) ?_
  refine pv_know (fun hq => ?_)
  have hab : t.1 1 = some (.inl (.int, 7)) := (hq 1 (by decide)).1
  have hav : ∀ j, j < 7 → I 1 j = pv_above j := (hq 1 (by decide)).2 _ rfl
  refine pv_iload_0 (pc := 0) dX11_isUnder_0 ?_
  refine pv_istore_2 (pc := 1) dX11_isUnder_1 (by decide) rfl ?_
  refine pv_iconst (pc := 2) (v := 0) dX11_isUnder_2 (by decide) ?_
  refine pv_istore_3 (pc := 3) dX11_isUnder_3 (by decide) rfl ?_
  refine pv_iload_3 (pc := 4) dX11_isUnder_4 ?_
  refine pv_bipush (pc := 5) (v := 7) dX11_isUnder_5 (by decide) ?_
  refine pv_icmp_ge (pc := 7) (tgt := 34) dX11_isUnder_7 (by decide) (fun q => absurd q (by decide)) (fun _ => ?_)
  refine pv_iload_2 (pc := 10) dX11_isUnder_10 ?_
  refine pv_callS1 (pc := 11) dX11_isUnder_11 mgX11_isKind ls_X11_129 (by omega) (c_X11_isKind ) rfl rfl (by decide) ?_
  refine pv_topv2 (y := 1) (by decide) ?_
  refine pv_if_eq (pc := 14) (tgt := 34) dX11_isUnder_14 (by decide) (fun q => absurd q (by decide)) (fun _ => ?_)
  refine pv_iload_2 (pc := 17) dX11_isUnder_17 ?_
  refine pv_iload_1 (pc := 18) dX11_isUnder_18 ?_
  refine pv_icmp_eq (pc := 19) (tgt := 34) dX11_isUnder_19 (by decide) (fun _ => ?_) (fun q => absurd q (by decide))
  refine pv_iload_2 (pc := 34) dX11_isUnder_34 ?_
  refine pv_iload_1 (pc := 35) dX11_isUnder_35 ?_
  refine pv_icmp_ne (pc := 36) (tgt := 43) dX11_isUnder_36 (by decide) (fun q => absurd q (by decide)) (fun _ => ?_)
  refine pv_iconst (pc := 39) (v := 1) dX11_isUnder_39 (by decide) ?_
  refine pv_goto (pc := 40) (tgt := 44) dX11_isUnder_40 (by decide) ?_
  refine pv_iret (pc := 44) dX11_isUnder_44 rfl rfl ?_
  exact ⟨rfl, rfl, rfl, rfl, rfl⟩

set_option maxRecDepth 100000 in
set_option maxHeartbeats 4000000 in
theorem c_un_3_4 {G : pv_G} {d : Nat} {t : pv_T} {I : pv_I} {L : pv_L} {Rf : pv_R} (hd : 1 ≤ d) : pv_Mt G mX11_isUnder d 0 0 [.int 3, .int 4] t I L Rf (pv_is (some (.int (pv_b (x_un 3 4)))) t I L Rf) := by
  refine pv_mt mgX11_isUnder.2.2.2.2.2 [.int 3, .int 4, .retAddr 0, .retAddr 0] rfl (Nat.le_of_ble_eq_true rfl) ?_
  refine pv_know (fun hq => ?_)
  have hab : t.1 1 = some (.inl (.int, 7)) := (hq 1 (by decide)).1
  have hav : ∀ j, j < 7 → I 1 j = pv_above j := (hq 1 (by decide)).2 _ rfl
  refine pv_iload_0 (pc := 0) dX11_isUnder_0 ?_
  refine pv_istore_2 (pc := 1) dX11_isUnder_1 (by decide) rfl ?_
  refine pv_iconst (pc := 2) (v := 0) dX11_isUnder_2 (by decide) ?_
  refine pv_istore_3 (pc := 3) dX11_isUnder_3 (by decide) rfl ?_
  refine pv_iload_3 (pc := 4) dX11_isUnder_4 ?_
  refine pv_bipush (pc := 5) (v := 7) dX11_isUnder_5 (by decide) ?_
  refine pv_icmp_ge (pc := 7) (tgt := 34) dX11_isUnder_7 (by decide) (fun q => absurd q (by decide)) (fun _ => ?_)
  refine pv_iload_2 (pc := 10) dX11_isUnder_10 ?_
  refine pv_callS1 (pc := 11) dX11_isUnder_11 mgX11_isKind ls_X11_129 (by omega) (c_X11_isKind ) rfl rfl (by decide) ?_
  refine pv_topv2 (y := 1) (by decide) ?_
  refine pv_if_eq (pc := 14) (tgt := 34) dX11_isUnder_14 (by decide) (fun q => absurd q (by decide)) (fun _ => ?_)
  refine pv_iload_2 (pc := 17) dX11_isUnder_17 ?_
  refine pv_iload_1 (pc := 18) dX11_isUnder_18 ?_
  refine pv_icmp_eq (pc := 19) (tgt := 34) dX11_isUnder_19 (by decide) (fun q => absurd q (by decide)) (fun _ => ?_)
  refine pv_gsAbove (pc := 22) dX11_isUnder_22 sl_X11_345 ?_
  refine pv_iload_2 (pc := 25) dX11_isUnder_25 ?_
  refine pv_ialoadj (pc := 26) dX11_isUnder_26 hab (j := 3) (by decide) (by unfold vp_in; decide) ?_
  refine pv_topv2 (y := 1) (by rw [hav _ (by decide)]; decide) ?_
  refine pv_istore_2 (pc := 27) dX11_isUnder_27 (by decide) rfl ?_
  refine pv_iinc_3 (pc := 28) (v := 1) dX11_isUnder_28 (by decide) (by decide) rfl ?_
  refine pv_goto (pc := 31) (tgt := 4) dX11_isUnder_31 (by decide) ?_
  refine pv_iload_3 (pc := 4) dX11_isUnder_4 ?_
  refine pv_bipush (pc := 5) (v := 7) dX11_isUnder_5 (by decide) ?_
  refine pv_icmp_ge (pc := 7) (tgt := 34) dX11_isUnder_7 (by decide) (fun q => absurd q (by decide)) (fun _ => ?_)
  refine pv_iload_2 (pc := 10) dX11_isUnder_10 ?_
  refine pv_callS1 (pc := 11) dX11_isUnder_11 mgX11_isKind ls_X11_129 (by omega) (c_X11_isKind ) rfl rfl (by decide) ?_
  refine pv_topv2 (y := 1) (by decide) ?_
  refine pv_if_eq (pc := 14) (tgt := 34) dX11_isUnder_14 (by decide) (fun q => absurd q (by decide)) (fun _ => ?_)
  refine pv_iload_2 (pc := 17) dX11_isUnder_17 ?_
  refine pv_iload_1 (pc := 18) dX11_isUnder_18 ?_
  refine pv_icmp_eq (pc := 19) (tgt := 34) dX11_isUnder_19 (by decide) (fun q => absurd q (by decide)) (fun _ => ?_)
  refine pv_gsAbove (pc := 22) dX11_isUnder_22 sl_X11_345 ?_
  refine pv_iload_2 (pc := 25) dX11_isUnder_25 ?_
  refine pv_ialoadj (pc := 26) dX11_isUnder_26 hab (j := 1) (by decide) (by unfold vp_in; decide) ?_
  refine pv_topv2 (y := 0) (by rw [hav _ (by decide)]; decide) ?_
  refine pv_istore_2 (pc := 27) dX11_isUnder_27 (by decide) rfl ?_
  refine pv_iinc_3 (pc := 28) (v := 2) dX11_isUnder_28 (by decide) (by decide) rfl ?_
  refine pv_goto (pc := 31) (tgt := 4) dX11_isUnder_31 (by decide) ?_
  refine pv_iload_3 (pc := 4) dX11_isUnder_4 ?_
  refine pv_bipush (pc := 5) (v := 7) dX11_isUnder_5 (by decide) ?_
  refine pv_icmp_ge (pc := 7) (tgt := 34) dX11_isUnder_7 (by decide) (fun q => absurd q (by decide)) (fun _ => ?_)
  refine pv_iload_2 (pc := 10) dX11_isUnder_10 ?_
  refine pv_callS1 (pc := 11) dX11_isUnder_11 mgX11_isKind ls_X11_129 (by omega) (c_X11_isKind ) rfl rfl (by decide) ?_
  refine pv_topv2 (y := 1) (by decide) ?_
  refine pv_if_eq (pc := 14) (tgt := 34) dX11_isUnder_14 (by decide) (fun q => absurd q (by decide)) (fun _ => ?_)
  refine pv_iload_2 (pc := 17) dX11_isUnder_17 ?_
  refine pv_iload_1 (pc := 18) dX11_isUnder_18 ?_
  refine pv_icmp_eq (pc := 19) (tgt := 34) dX11_isUnder_19 (by decide) (fun q => absurd q (by decide)) (fun _ => ?_)
  refine pv_gsAbove (pc := 22) dX11_isUnder_22 sl_X11_345 ?_
  refine pv_iload_2 (pc := 25) dX11_isUnder_25 ?_
  refine pv_ialoadj (pc := 26) dX11_isUnder_26 hab (j := 0) (by decide) (by unfold vp_in; decide) ?_
  refine pv_topv2 (y := (-1)) (by rw [hav _ (by decide)]; decide) ?_
  refine pv_istore_2 (pc := 27) dX11_isUnder_27 (by decide) rfl ?_
  refine pv_iinc_3 (pc := 28) (v := 3) dX11_isUnder_28 (by decide) (by decide) rfl ?_
  refine pv_goto (pc := 31) (tgt := 4) dX11_isUnder_31 (by decide) ?_
  refine pv_iload_3 (pc := 4) dX11_isUnder_4 ?_
  refine pv_bipush (pc := 5) (v := 7) dX11_isUnder_5 (by decide) ?_
  refine pv_icmp_ge (pc := 7) (tgt := 34) dX11_isUnder_7 (by decide) (fun q => absurd q (by decide)) (fun _ => ?_)
  refine pv_iload_2 (pc := 10) dX11_isUnder_10 ?_
  refine pv_callS1 (pc := 11) dX11_isUnder_11 mgX11_isKind ls_X11_129 (by omega) (c_X11_isKind ) rfl rfl (by decide) ?_
  refine pv_topv2 (y := 0) (by decide) ?_
  refine pv_if_eq (pc := 14) (tgt := 34) dX11_isUnder_14 (by decide) (fun _ => ?_) (fun q => absurd q (by decide))
  refine pv_iload_2 (pc := 34) dX11_isUnder_34 ?_
  refine pv_iload_1 (pc := 35) dX11_isUnder_35 ?_
  refine pv_icmp_ne (pc := 36) (tgt := 43) dX11_isUnder_36 (by decide) (fun _ => ?_) (fun q => absurd q (by decide))
  refine pv_iconst (pc := 43) (v := 0) dX11_isUnder_43 (by decide) ?_
  refine pv_iret (pc := 44) dX11_isUnder_44 rfl rfl ?_
  exact ⟨rfl, rfl, rfl, rfl, rfl⟩

set_option maxRecDepth 100000 in
set_option maxHeartbeats 4000000 in
theorem c_un_3_5 {G : pv_G} {d : Nat} {t : pv_T} {I : pv_I} {L : pv_L} {Rf : pv_R} (hd : 1 ≤ d) : pv_Mt G mX11_isUnder d 0 0 [.int 3, .int 5] t I L Rf (pv_is (some (.int (pv_b (x_un 3 5)))) t I L Rf) := by
  refine pv_mt mgX11_isUnder.2.2.2.2.2 [.int 3, .int 5, .retAddr 0, .retAddr 0] rfl (Nat.le_of_ble_eq_true rfl) ?_
  refine pv_know (fun hq => ?_)
  have hab : t.1 1 = some (.inl (.int, 7)) := (hq 1 (by decide)).1
  have hav : ∀ j, j < 7 → I 1 j = pv_above j := (hq 1 (by decide)).2 _ rfl
  refine pv_iload_0 (pc := 0) dX11_isUnder_0 ?_
  refine pv_istore_2 (pc := 1) dX11_isUnder_1 (by decide) rfl ?_
  refine pv_iconst (pc := 2) (v := 0) dX11_isUnder_2 (by decide) ?_
  refine pv_istore_3 (pc := 3) dX11_isUnder_3 (by decide) rfl ?_
  refine pv_iload_3 (pc := 4) dX11_isUnder_4 ?_
  refine pv_bipush (pc := 5) (v := 7) dX11_isUnder_5 (by decide) ?_
  refine pv_icmp_ge (pc := 7) (tgt := 34) dX11_isUnder_7 (by decide) (fun q => absurd q (by decide)) (fun _ => ?_)
  refine pv_iload_2 (pc := 10) dX11_isUnder_10 ?_
  refine pv_callS1 (pc := 11) dX11_isUnder_11 mgX11_isKind ls_X11_129 (by omega) (c_X11_isKind ) rfl rfl (by decide) ?_
  refine pv_topv2 (y := 1) (by decide) ?_
  refine pv_if_eq (pc := 14) (tgt := 34) dX11_isUnder_14 (by decide) (fun q => absurd q (by decide)) (fun _ => ?_)
  refine pv_iload_2 (pc := 17) dX11_isUnder_17 ?_
  refine pv_iload_1 (pc := 18) dX11_isUnder_18 ?_
  refine pv_icmp_eq (pc := 19) (tgt := 34) dX11_isUnder_19 (by decide) (fun q => absurd q (by decide)) (fun _ => ?_)
  refine pv_gsAbove (pc := 22) dX11_isUnder_22 sl_X11_345 ?_
  refine pv_iload_2 (pc := 25) dX11_isUnder_25 ?_
  refine pv_ialoadj (pc := 26) dX11_isUnder_26 hab (j := 3) (by decide) (by unfold vp_in; decide) ?_
  refine pv_topv2 (y := 1) (by rw [hav _ (by decide)]; decide) ?_
  refine pv_istore_2 (pc := 27) dX11_isUnder_27 (by decide) rfl ?_
  refine pv_iinc_3 (pc := 28) (v := 1) dX11_isUnder_28 (by decide) (by decide) rfl ?_
  refine pv_goto (pc := 31) (tgt := 4) dX11_isUnder_31 (by decide) ?_
  refine pv_iload_3 (pc := 4) dX11_isUnder_4 ?_
  refine pv_bipush (pc := 5) (v := 7) dX11_isUnder_5 (by decide) ?_
  refine pv_icmp_ge (pc := 7) (tgt := 34) dX11_isUnder_7 (by decide) (fun q => absurd q (by decide)) (fun _ => ?_)
  refine pv_iload_2 (pc := 10) dX11_isUnder_10 ?_
  refine pv_callS1 (pc := 11) dX11_isUnder_11 mgX11_isKind ls_X11_129 (by omega) (c_X11_isKind ) rfl rfl (by decide) ?_
  refine pv_topv2 (y := 1) (by decide) ?_
  refine pv_if_eq (pc := 14) (tgt := 34) dX11_isUnder_14 (by decide) (fun q => absurd q (by decide)) (fun _ => ?_)
  refine pv_iload_2 (pc := 17) dX11_isUnder_17 ?_
  refine pv_iload_1 (pc := 18) dX11_isUnder_18 ?_
  refine pv_icmp_eq (pc := 19) (tgt := 34) dX11_isUnder_19 (by decide) (fun q => absurd q (by decide)) (fun _ => ?_)
  refine pv_gsAbove (pc := 22) dX11_isUnder_22 sl_X11_345 ?_
  refine pv_iload_2 (pc := 25) dX11_isUnder_25 ?_
  refine pv_ialoadj (pc := 26) dX11_isUnder_26 hab (j := 1) (by decide) (by unfold vp_in; decide) ?_
  refine pv_topv2 (y := 0) (by rw [hav _ (by decide)]; decide) ?_
  refine pv_istore_2 (pc := 27) dX11_isUnder_27 (by decide) rfl ?_
  refine pv_iinc_3 (pc := 28) (v := 2) dX11_isUnder_28 (by decide) (by decide) rfl ?_
  refine pv_goto (pc := 31) (tgt := 4) dX11_isUnder_31 (by decide) ?_
  refine pv_iload_3 (pc := 4) dX11_isUnder_4 ?_
  refine pv_bipush (pc := 5) (v := 7) dX11_isUnder_5 (by decide) ?_
  refine pv_icmp_ge (pc := 7) (tgt := 34) dX11_isUnder_7 (by decide) (fun q => absurd q (by decide)) (fun _ => ?_)
  refine pv_iload_2 (pc := 10) dX11_isUnder_10 ?_
  refine pv_callS1 (pc := 11) dX11_isUnder_11 mgX11_isKind ls_X11_129 (by omega) (c_X11_isKind ) rfl rfl (by decide) ?_
  refine pv_topv2 (y := 1) (by decide) ?_
  refine pv_if_eq (pc := 14) (tgt := 34) dX11_isUnder_14 (by decide) (fun q => absurd q (by decide)) (fun _ => ?_)
  refine pv_iload_2 (pc := 17) dX11_isUnder_17 ?_
  refine pv_iload_1 (pc := 18) dX11_isUnder_18 ?_
  refine pv_icmp_eq (pc := 19) (tgt := 34) dX11_isUnder_19 (by decide) (fun q => absurd q (by decide)) (fun _ => ?_)
  refine pv_gsAbove (pc := 22) dX11_isUnder_22 sl_X11_345 ?_
  refine pv_iload_2 (pc := 25) dX11_isUnder_25 ?_
  refine pv_ialoadj (pc := 26) dX11_isUnder_26 hab (j := 0) (by decide) (by unfold vp_in; decide) ?_
  refine pv_topv2 (y := (-1)) (by rw [hav _ (by decide)]; decide) ?_
  refine pv_istore_2 (pc := 27) dX11_isUnder_27 (by decide) rfl ?_
  refine pv_iinc_3 (pc := 28) (v := 3) dX11_isUnder_28 (by decide) (by decide) rfl ?_
  refine pv_goto (pc := 31) (tgt := 4) dX11_isUnder_31 (by decide) ?_
  refine pv_iload_3 (pc := 4) dX11_isUnder_4 ?_
  refine pv_bipush (pc := 5) (v := 7) dX11_isUnder_5 (by decide) ?_
  refine pv_icmp_ge (pc := 7) (tgt := 34) dX11_isUnder_7 (by decide) (fun q => absurd q (by decide)) (fun _ => ?_)
  refine pv_iload_2 (pc := 10) dX11_isUnder_10 ?_
  refine pv_callS1 (pc := 11) dX11_isUnder_11 mgX11_isKind ls_X11_129 (by omega) (c_X11_isKind ) rfl rfl (by decide) ?_
  refine pv_topv2 (y := 0) (by decide) ?_
  refine pv_if_eq (pc := 14) (tgt := 34) dX11_isUnder_14 (by decide) (fun _ => ?_) (fun q => absurd q (by decide))
  refine pv_iload_2 (pc := 34) dX11_isUnder_34 ?_
  refine pv_iload_1 (pc := 35) dX11_isUnder_35 ?_
  refine pv_icmp_ne (pc := 36) (tgt := 43) dX11_isUnder_36 (by decide) (fun _ => ?_) (fun q => absurd q (by decide))
  refine pv_iconst (pc := 43) (v := 0) dX11_isUnder_43 (by decide) ?_
  refine pv_iret (pc := 44) dX11_isUnder_44 rfl rfl ?_
  exact ⟨rfl, rfl, rfl, rfl, rfl⟩

set_option maxRecDepth 100000 in
set_option maxHeartbeats 4000000 in
theorem c_un_3_6 {G : pv_G} {d : Nat} {t : pv_T} {I : pv_I} {L : pv_L} {Rf : pv_R} (hd : 1 ≤ d) : pv_Mt G mX11_isUnder d 0 0 [.int 3, .int 6] t I L Rf (pv_is (some (.int (pv_b (x_un 3 6)))) t I L Rf) := by
  refine pv_mt mgX11_isUnder.2.2.2.2.2 [.int 3, .int 6, .retAddr 0, .retAddr 0] rfl (Nat.le_of_ble_eq_true rfl) ?_
  refine pv_know (fun hq => ?_)
  have hab : t.1 1 = some (.inl (.int, 7)) := (hq 1 (by decide)).1
  have hav : ∀ j, j < 7 → I 1 j = pv_above j := (hq 1 (by decide)).2 _ rfl
  refine pv_iload_0 (pc := 0) dX11_isUnder_0 ?_
  refine pv_istore_2 (pc := 1) dX11_isUnder_1 (by decide) rfl ?_
  refine pv_iconst (pc := 2) (v := 0) dX11_isUnder_2 (by decide) ?_
  refine pv_istore_3 (pc := 3) dX11_isUnder_3 (by decide) rfl ?_
  refine pv_iload_3 (pc := 4) dX11_isUnder_4 ?_
  refine pv_bipush (pc := 5) (v := 7) dX11_isUnder_5 (by decide) ?_
  refine pv_icmp_ge (pc := 7) (tgt := 34) dX11_isUnder_7 (by decide) (fun q => absurd q (by decide)) (fun _ => ?_)
  refine pv_iload_2 (pc := 10) dX11_isUnder_10 ?_
  refine pv_callS1 (pc := 11) dX11_isUnder_11 mgX11_isKind ls_X11_129 (by omega) (c_X11_isKind ) rfl rfl (by decide) ?_
  refine pv_topv2 (y := 1) (by decide) ?_
  refine pv_if_eq (pc := 14) (tgt := 34) dX11_isUnder_14 (by decide) (fun q => absurd q (by decide)) (fun _ => ?_)
  refine pv_iload_2 (pc := 17) dX11_isUnder_17 ?_
  refine pv_iload_1 (pc := 18) dX11_isUnder_18 ?_
  refine pv_icmp_eq (pc := 19) (tgt := 34) dX11_isUnder_19 (by decide) (fun q => absurd q (by decide)) (fun _ => ?_)
  refine pv_gsAbove (pc := 22) dX11_isUnder_22 sl_X11_345 ?_
  refine pv_iload_2 (pc := 25) dX11_isUnder_25 ?_
  refine pv_ialoadj (pc := 26) dX11_isUnder_26 hab (j := 3) (by decide) (by unfold vp_in; decide) ?_
  refine pv_topv2 (y := 1) (by rw [hav _ (by decide)]; decide) ?_
  refine pv_istore_2 (pc := 27) dX11_isUnder_27 (by decide) rfl ?_
  refine pv_iinc_3 (pc := 28) (v := 1) dX11_isUnder_28 (by decide) (by decide) rfl ?_
  refine pv_goto (pc := 31) (tgt := 4) dX11_isUnder_31 (by decide) ?_
  refine pv_iload_3 (pc := 4) dX11_isUnder_4 ?_
  refine pv_bipush (pc := 5) (v := 7) dX11_isUnder_5 (by decide) ?_
  refine pv_icmp_ge (pc := 7) (tgt := 34) dX11_isUnder_7 (by decide) (fun q => absurd q (by decide)) (fun _ => ?_)
  refine pv_iload_2 (pc := 10) dX11_isUnder_10 ?_
  refine pv_callS1 (pc := 11) dX11_isUnder_11 mgX11_isKind ls_X11_129 (by omega) (c_X11_isKind ) rfl rfl (by decide) ?_
  refine pv_topv2 (y := 1) (by decide) ?_
  refine pv_if_eq (pc := 14) (tgt := 34) dX11_isUnder_14 (by decide) (fun q => absurd q (by decide)) (fun _ => ?_)
  refine pv_iload_2 (pc := 17) dX11_isUnder_17 ?_
  refine pv_iload_1 (pc := 18) dX11_isUnder_18 ?_
  refine pv_icmp_eq (pc := 19) (tgt := 34) dX11_isUnder_19 (by decide) (fun q => absurd q (by decide)) (fun _ => ?_)
  refine pv_gsAbove (pc := 22) dX11_isUnder_22 sl_X11_345 ?_
  refine pv_iload_2 (pc := 25) dX11_isUnder_25 ?_
  refine pv_ialoadj (pc := 26) dX11_isUnder_26 hab (j := 1) (by decide) (by unfold vp_in; decide) ?_
  refine pv_topv2 (y := 0) (by rw [hav _ (by decide)]; decide) ?_
  refine pv_istore_2 (pc := 27) dX11_isUnder_27 (by decide) rfl ?_
  refine pv_iinc_3 (pc := 28) (v := 2) dX11_isUnder_28 (by decide) (by decide) rfl ?_
  refine pv_goto (pc := 31) (tgt := 4) dX11_isUnder_31 (by decide) ?_
  refine pv_iload_3 (pc := 4) dX11_isUnder_4 ?_
  refine pv_bipush (pc := 5) (v := 7) dX11_isUnder_5 (by decide) ?_
  refine pv_icmp_ge (pc := 7) (tgt := 34) dX11_isUnder_7 (by decide) (fun q => absurd q (by decide)) (fun _ => ?_)
  refine pv_iload_2 (pc := 10) dX11_isUnder_10 ?_
  refine pv_callS1 (pc := 11) dX11_isUnder_11 mgX11_isKind ls_X11_129 (by omega) (c_X11_isKind ) rfl rfl (by decide) ?_
  refine pv_topv2 (y := 1) (by decide) ?_
  refine pv_if_eq (pc := 14) (tgt := 34) dX11_isUnder_14 (by decide) (fun q => absurd q (by decide)) (fun _ => ?_)
  refine pv_iload_2 (pc := 17) dX11_isUnder_17 ?_
  refine pv_iload_1 (pc := 18) dX11_isUnder_18 ?_
  refine pv_icmp_eq (pc := 19) (tgt := 34) dX11_isUnder_19 (by decide) (fun q => absurd q (by decide)) (fun _ => ?_)
  refine pv_gsAbove (pc := 22) dX11_isUnder_22 sl_X11_345 ?_
  refine pv_iload_2 (pc := 25) dX11_isUnder_25 ?_
  refine pv_ialoadj (pc := 26) dX11_isUnder_26 hab (j := 0) (by decide) (by unfold vp_in; decide) ?_
  refine pv_topv2 (y := (-1)) (by rw [hav _ (by decide)]; decide) ?_
  refine pv_istore_2 (pc := 27) dX11_isUnder_27 (by decide) rfl ?_
  refine pv_iinc_3 (pc := 28) (v := 3) dX11_isUnder_28 (by decide) (by decide) rfl ?_
  refine pv_goto (pc := 31) (tgt := 4) dX11_isUnder_31 (by decide) ?_
  refine pv_iload_3 (pc := 4) dX11_isUnder_4 ?_
  refine pv_bipush (pc := 5) (v := 7) dX11_isUnder_5 (by decide) ?_
  refine pv_icmp_ge (pc := 7) (tgt := 34) dX11_isUnder_7 (by decide) (fun q => absurd q (by decide)) (fun _ => ?_)
  refine pv_iload_2 (pc := 10) dX11_isUnder_10 ?_
  refine pv_callS1 (pc := 11) dX11_isUnder_11 mgX11_isKind ls_X11_129 (by omega) (c_X11_isKind ) rfl rfl (by decide) ?_
  refine pv_topv2 (y := 0) (by decide) ?_
  refine pv_if_eq (pc := 14) (tgt := 34) dX11_isUnder_14 (by decide) (fun _ => ?_) (fun q => absurd q (by decide))
  refine pv_iload_2 (pc := 34) dX11_isUnder_34 ?_
  refine pv_iload_1 (pc := 35) dX11_isUnder_35 ?_
  refine pv_icmp_ne (pc := 36) (tgt := 43) dX11_isUnder_36 (by decide) (fun _ => ?_) (fun q => absurd q (by decide))
  refine pv_iconst (pc := 43) (v := 0) dX11_isUnder_43 (by decide) ?_
  refine pv_iret (pc := 44) dX11_isUnder_44 rfl rfl ?_
  exact ⟨rfl, rfl, rfl, rfl, rfl⟩

set_option maxRecDepth 100000 in
set_option maxHeartbeats 4000000 in
theorem c_un_4_0 {G : pv_G} {d : Nat} {t : pv_T} {I : pv_I} {L : pv_L} {Rf : pv_R} (hd : 1 ≤ d) : pv_Mt G mX11_isUnder d 0 0 [.int 4, .int 0] t I L Rf (pv_is (some (.int (pv_b (x_un 4 0)))) t I L Rf) := by
  refine pv_mt mgX11_isUnder.2.2.2.2.2 [.int 4, .int 0, .retAddr 0, .retAddr 0] rfl (Nat.le_of_ble_eq_true rfl) ?_
  refine pv_know (fun hq => ?_)
  have hab : t.1 1 = some (.inl (.int, 7)) := (hq 1 (by decide)).1
  have hav : ∀ j, j < 7 → I 1 j = pv_above j := (hq 1 (by decide)).2 _ rfl
  refine pv_iload_0 (pc := 0) dX11_isUnder_0 ?_
  refine pv_istore_2 (pc := 1) dX11_isUnder_1 (by decide) rfl ?_
  refine pv_iconst (pc := 2) (v := 0) dX11_isUnder_2 (by decide) ?_
  refine pv_istore_3 (pc := 3) dX11_isUnder_3 (by decide) rfl ?_
  refine pv_iload_3 (pc := 4) dX11_isUnder_4 ?_
  refine pv_bipush (pc := 5) (v := 7) dX11_isUnder_5 (by decide) ?_
  refine pv_icmp_ge (pc := 7) (tgt := 34) dX11_isUnder_7 (by decide) (fun q => absurd q (by decide)) (fun _ => ?_)
  refine pv_iload_2 (pc := 10) dX11_isUnder_10 ?_
  refine pv_callS1 (pc := 11) dX11_isUnder_11 mgX11_isKind ls_X11_129 (by omega) (c_X11_isKind ) rfl rfl (by decide) ?_
  refine pv_topv2 (y := 1) (by decide) ?_
  refine pv_if_eq (pc := 14) (tgt := 34) dX11_isUnder_14 (by decide) (fun q => absurd q (by decide)) (fun _ => ?_)
  refine pv_iload_2 (pc := 17) dX11_isUnder_17 ?_
  refine pv_iload_1 (pc := 18) dX11_isUnder_18 ?_
  refine pv_icmp_eq (pc := 19) (tgt := 34) dX11_isUnder_19 (by decide) (fun q => absurd q (by decide)) (fun _ => ?_)
  refine pv_gsAbove (pc := 22) dX11_isUnder_22 sl_X11_345 ?_
  refine pv_iload_2 (pc := 25) dX11_isUnder_25 ?_
  refine pv_ialoadj (pc := 26) dX11_isUnder_26 hab (j := 4) (by decide) (by unfold vp_in; decide) ?_
  refine pv_topv2 (y := 0) (by rw [hav _ (by decide)]; decide) ?_
  refine pv_istore_2 (pc := 27) dX11_isUnder_27 (by decide) rfl ?_
  refine pv_iinc_3 (pc := 28) (v := 1) dX11_isUnder_28 (by decide) (by decide) rfl ?_
  refine pv_goto (pc := 31) (tgt := 4) dX11_isUnder_31 (by decide) ?_
  refine pv_iload_3 (pc := 4) dX11_isUnder_4 ?_
  refine pv_bipush (pc := 5) (v := 7) dX11_isUnder_5 (by decide) ?_
  refine pv_icmp_ge (pc := 7) (tgt := 34) dX11_isUnder_7 (by decide) (fun q => absurd q (by decide)) (fun _ => ?_)
  refine pv_iload_2 (pc := 10) dX11_isUnder_10 ?_
  refine pv_callS1 (pc := 11) dX11_isUnder_11 mgX11_isKind ls_X11_129 (by omega) (c_X11_isKind ) rfl rfl (by decide) ?_
  refine pv_topv2 (y := 1) (by decide) ?_
  refine pv_if_eq (pc := 14) (tgt := 34) dX11_isUnder_14 (by decide) (fun q => absurd q (by decide)) (fun _ => ?_)
  refine pv_iload_2 (pc := 17) dX11_isUnder_17 ?_
  refine pv_iload_1 (pc := 18) dX11_isUnder_18 ?_
  refine pv_icmp_eq (pc := 19) (tgt := 34) dX11_isUnder_19 (by decide) (fun _ => ?_) (fun q => absurd q (by decide))
  refine pv_iload_2 (pc := 34) dX11_isUnder_34 ?_
  refine pv_iload_1 (pc := 35) dX11_isUnder_35 ?_
  refine pv_icmp_ne (pc := 36) (tgt := 43) dX11_isUnder_36 (by decide) (fun q => absurd q (by decide)) (fun _ => ?_)
  refine pv_iconst (pc := 39) (v := 1) dX11_isUnder_39 (by decide) ?_
  refine pv_goto (pc := 40) (tgt := 44) dX11_isUnder_40 (by decide) ?_
  refine pv_iret (pc := 44) dX11_isUnder_44 rfl rfl ?_
  exact ⟨rfl, rfl, rfl, rfl, rfl⟩

set_option maxRecDepth 100000 in
set_option maxHeartbeats 4000000 in
theorem c_un_4_1 {G : pv_G} {d : Nat} {t : pv_T} {I : pv_I} {L : pv_L} {Rf : pv_R} (hd : 1 ≤ d) : pv_Mt G mX11_isUnder d 0 0 [.int 4, .int 1] t I L Rf (pv_is (some (.int (pv_b (x_un 4 1)))) t I L Rf) := by
  refine pv_mt mgX11_isUnder.2.2.2.2.2 [.int 4, .int 1, .retAddr 0, .retAddr 0] rfl (Nat.le_of_ble_eq_true rfl) ?_
  refine pv_know (fun hq => ?_)
  have hab : t.1 1 = some (.inl (.int, 7)) := (hq 1 (by decide)).1
  have hav : ∀ j, j < 7 → I 1 j = pv_above j := (hq 1 (by decide)).2 _ rfl
  refine pv_iload_0 (pc := 0) dX11_isUnder_0 ?_
  refine pv_istore_2 (pc := 1) dX11_isUnder_1 (by decide) rfl ?_
  refine pv_iconst (pc := 2) (v := 0) dX11_isUnder_2 (by decide) ?_
  refine pv_istore_3 (pc := 3) dX11_isUnder_3 (by decide) rfl ?_
  refine pv_iload_3 (pc := 4) dX11_isUnder_4 ?_
  refine pv_bipush (pc := 5) (v := 7) dX11_isUnder_5 (by decide) ?_
  refine pv_icmp_ge (pc := 7) (tgt := 34) dX11_isUnder_7 (by decide) (fun q => absurd q (by decide)) (fun _ => ?_)
  refine pv_iload_2 (pc := 10) dX11_isUnder_10 ?_
  refine pv_callS1 (pc := 11) dX11_isUnder_11 mgX11_isKind ls_X11_129 (by omega) (c_X11_isKind ) rfl rfl (by decide) ?_
  refine pv_topv2 (y := 1) (by decide) ?_
  refine pv_if_eq (pc := 14) (tgt := 34) dX11_isUnder_14 (by decide) (fun q => absurd q (by decide)) (fun _ => ?_)
  refine pv_iload_2 (pc := 17) dX11_isUnder_17 ?_
  refine pv_iload_1 (pc := 18) dX11_isUnder_18 ?_
  refine pv_icmp_eq (pc := 19) (tgt := 34) dX11_isUnder_19 (by decide) (fun q => absurd q (by decide)) (fun _ => ?_)
  refine pv_gsAbove (pc := 22) dX11_isUnder_22 sl_X11_345 ?_
  refine pv_iload_2 (pc := 25) dX11_isUnder_25 ?_
  refine pv_ialoadj (pc := 26) dX11_isUnder_26 hab (j := 4) (by decide) (by unfold vp_in; decide) ?_
  refine pv_topv2 (y := 0) (by rw [hav _ (by decide)]; decide) ?_
  refine pv_istore_2 (pc := 27) dX11_isUnder_27 (by decide) rfl ?_
  refine pv_iinc_3 (pc := 28) (v := 1) dX11_isUnder_28 (by decide) (by decide) rfl ?_
  refine pv_goto (pc := 31) (tgt := 4) dX11_isUnder_31 (by decide) ?_
  refine pv_iload_3 (pc := 4) dX11_isUnder_4 ?_
  refine pv_bipush (pc := 5) (v := 7) dX11_isUnder_5 (by decide) ?_
  refine pv_icmp_ge (pc := 7) (tgt := 34) dX11_isUnder_7 (by decide) (fun q => absurd q (by decide)) (fun _ => ?_)
  refine pv_iload_2 (pc := 10) dX11_isUnder_10 ?_
  refine pv_callS1 (pc := 11) dX11_isUnder_11 mgX11_isKind ls_X11_129 (by omega) (c_X11_isKind ) rfl rfl (by decide) ?_
  refine pv_topv2 (y := 1) (by decide) ?_
  refine pv_if_eq (pc := 14) (tgt := 34) dX11_isUnder_14 (by decide) (fun q => absurd q (by decide)) (fun _ => ?_)
  refine pv_iload_2 (pc := 17) dX11_isUnder_17 ?_
  refine pv_iload_1 (pc := 18) dX11_isUnder_18 ?_
  refine pv_icmp_eq (pc := 19) (tgt := 34) dX11_isUnder_19 (by decide) (fun q => absurd q (by decide)) (fun _ => ?_)
  refine pv_gsAbove (pc := 22) dX11_isUnder_22 sl_X11_345 ?_
  refine pv_iload_2 (pc := 25) dX11_isUnder_25 ?_
  refine pv_ialoadj (pc := 26) dX11_isUnder_26 hab (j := 0) (by decide) (by unfold vp_in; decide) ?_
  refine pv_topv2 (y := (-1)) (by rw [hav _ (by decide)]; decide) ?_
  refine pv_istore_2 (pc := 27) dX11_isUnder_27 (by decide) rfl ?_
  refine pv_iinc_3 (pc := 28) (v := 2) dX11_isUnder_28 (by decide) (by decide) rfl ?_
  refine pv_goto (pc := 31) (tgt := 4) dX11_isUnder_31 (by decide) ?_
  refine pv_iload_3 (pc := 4) dX11_isUnder_4 ?_
  refine pv_bipush (pc := 5) (v := 7) dX11_isUnder_5 (by decide) ?_
  refine pv_icmp_ge (pc := 7) (tgt := 34) dX11_isUnder_7 (by decide) (fun q => absurd q (by decide)) (fun _ => ?_)
  refine pv_iload_2 (pc := 10) dX11_isUnder_10 ?_
  refine pv_callS1 (pc := 11) dX11_isUnder_11 mgX11_isKind ls_X11_129 (by omega) (c_X11_isKind ) rfl rfl (by decide) ?_
  refine pv_topv2 (y := 0) (by decide) ?_
  refine pv_if_eq (pc := 14) (tgt := 34) dX11_isUnder_14 (by decide) (fun _ => ?_) (fun q => absurd q (by decide))
  refine pv_iload_2 (pc := 34) dX11_isUnder_34 ?_
  refine pv_iload_1 (pc := 35) dX11_isUnder_35 ?_
  refine pv_icmp_ne (pc := 36) (tgt := 43) dX11_isUnder_36 (by decide) (fun _ => ?_) (fun q => absurd q (by decide))
  refine pv_iconst (pc := 43) (v := 0) dX11_isUnder_43 (by decide) ?_
  refine pv_iret (pc := 44) dX11_isUnder_44 rfl rfl ?_
  exact ⟨rfl, rfl, rfl, rfl, rfl⟩

set_option maxRecDepth 100000 in
set_option maxHeartbeats 4000000 in
theorem c_un_4_2 {G : pv_G} {d : Nat} {t : pv_T} {I : pv_I} {L : pv_L} {Rf : pv_R} (hd : 1 ≤ d) : pv_Mt G mX11_isUnder d 0 0 [.int 4, .int 2] t I L Rf (pv_is (some (.int (pv_b (x_un 4 2)))) t I L Rf) := by
  refine pv_mt mgX11_isUnder.2.2.2.2.2 [.int 4, .int 2, .retAddr 0, .retAddr 0] rfl (Nat.le_of_ble_eq_true rfl) ?_
  refine pv_know (fun hq => ?_)
  have hab : t.1 1 = some (.inl (.int, 7)) := (hq 1 (by decide)).1
  have hav : ∀ j, j < 7 → I 1 j = pv_above j := (hq 1 (by decide)).2 _ rfl
  refine pv_iload_0 (pc := 0) dX11_isUnder_0 ?_
  refine pv_istore_2 (pc := 1) dX11_isUnder_1 (by decide) rfl ?_
  refine pv_iconst (pc := 2) (v := 0) dX11_isUnder_2 (by decide) ?_
  refine pv_istore_3 (pc := 3) dX11_isUnder_3 (by decide) rfl ?_
  refine pv_iload_3 (pc := 4) dX11_isUnder_4 ?_
  refine pv_bipush (pc := 5) (v := 7) dX11_isUnder_5 (by decide) ?_
  refine pv_icmp_ge (pc := 7) (tgt := 34) dX11_isUnder_7 (by decide) (fun q => absurd q (by decide)) (fun _ => ?_)
  refine pv_iload_2 (pc := 10) dX11_isUnder_10 ?_
  refine pv_callS1 (pc := 11) dX11_isUnder_11 mgX11_isKind ls_X11_129 (by omega) (c_X11_isKind ) rfl rfl (by decide) ?_
  refine pv_topv2 (y := 1) (by decide) ?_
  refine pv_if_eq (pc := 14) (tgt := 34) dX11_isUnder_14 (by decide) (fun q => absurd q (by decide)) (fun _ => ?_)
  refine pv_iload_2 (pc := 17) dX11_isUnder_17 ?_
  refine pv_iload_1 (pc := 18) dX11_isUnder_18 ?_
  refine pv_icmp_eq (pc := 19) (tgt := 34) dX11_isUnder_19 (by decide) (fun q => absurd q (by decide)) (fun _ => ?_)
  refine pv_gsAbove (pc := 22) dX11_isUnder_22 sl_X11_345 ?_
  refine pv_iload_2 (pc := 25) dX11_isUnder_25 ?_
  refine pv_ialoadj (pc := 26) dX11_isUnder_26 hab (j := 4) (by decide) (by unfold vp_in; decide) ?_
  refine pv_topv2 (y := 0) (by rw [hav _ (by decide)]; decide) ?_
  refine pv_istore_2 (pc := 27) dX11_isUnder_27 (by decide) rfl ?_
  refine pv_iinc_3 (pc := 28) (v := 1) dX11_isUnder_28 (by decide) (by decide) rfl ?_
  refine pv_goto (pc := 31) (tgt := 4) dX11_isUnder_31 (by decide) ?_
  refine pv_iload_3 (pc := 4) dX11_isUnder_4 ?_
  refine pv_bipush (pc := 5) (v := 7) dX11_isUnder_5 (by decide) ?_
  refine pv_icmp_ge (pc := 7) (tgt := 34) dX11_isUnder_7 (by decide) (fun q => absurd q (by decide)) (fun _ => ?_)
  refine pv_iload_2 (pc := 10) dX11_isUnder_10 ?_
  refine pv_callS1 (pc := 11) dX11_isUnder_11 mgX11_isKind ls_X11_129 (by omega) (c_X11_isKind ) rfl rfl (by decide) ?_
  refine pv_topv2 (y := 1) (by decide) ?_
  refine pv_if_eq (pc := 14) (tgt := 34) dX11_isUnder_14 (by decide) (fun q => absurd q (by decide)) (fun _ => ?_)
  refine pv_iload_2 (pc := 17) dX11_isUnder_17 ?_
  refine pv_iload_1 (pc := 18) dX11_isUnder_18 ?_
  refine pv_icmp_eq (pc := 19) (tgt := 34) dX11_isUnder_19 (by decide) (fun q => absurd q (by decide)) (fun _ => ?_)
  refine pv_gsAbove (pc := 22) dX11_isUnder_22 sl_X11_345 ?_
  refine pv_iload_2 (pc := 25) dX11_isUnder_25 ?_
  refine pv_ialoadj (pc := 26) dX11_isUnder_26 hab (j := 0) (by decide) (by unfold vp_in; decide) ?_
  refine pv_topv2 (y := (-1)) (by rw [hav _ (by decide)]; decide) ?_
  refine pv_istore_2 (pc := 27) dX11_isUnder_27 (by decide) rfl ?_
  refine pv_iinc_3 (pc := 28) (v := 2) dX11_isUnder_28 (by decide) (by decide) rfl ?_
  refine pv_goto (pc := 31) (tgt := 4) dX11_isUnder_31 (by decide) ?_
  refine pv_iload_3 (pc := 4) dX11_isUnder_4 ?_
  refine pv_bipush (pc := 5) (v := 7) dX11_isUnder_5 (by decide) ?_
  refine pv_icmp_ge (pc := 7) (tgt := 34) dX11_isUnder_7 (by decide) (fun q => absurd q (by decide)) (fun _ => ?_)
  refine pv_iload_2 (pc := 10) dX11_isUnder_10 ?_
  refine pv_callS1 (pc := 11) dX11_isUnder_11 mgX11_isKind ls_X11_129 (by omega) (c_X11_isKind ) rfl rfl (by decide) ?_
  refine pv_topv2 (y := 0) (by decide) ?_
  refine pv_if_eq (pc := 14) (tgt := 34) dX11_isUnder_14 (by decide) (fun _ => ?_) (fun q => absurd q (by decide))
  refine pv_iload_2 (pc := 34) dX11_isUnder_34 ?_
  refine pv_iload_1 (pc := 35) dX11_isUnder_35 ?_
  refine pv_icmp_ne (pc := 36) (tgt := 43) dX11_isUnder_36 (by decide) (fun _ => ?_) (fun q => absurd q (by decide))
  refine pv_iconst (pc := 43) (v := 0) dX11_isUnder_43 (by decide) ?_
  refine pv_iret (pc := 44) dX11_isUnder_44 rfl rfl ?_
  exact ⟨rfl, rfl, rfl, rfl, rfl⟩

set_option maxRecDepth 100000 in
set_option maxHeartbeats 4000000 in
theorem c_un_4_3 {G : pv_G} {d : Nat} {t : pv_T} {I : pv_I} {L : pv_L} {Rf : pv_R} (hd : 1 ≤ d) : pv_Mt G mX11_isUnder d 0 0 [.int 4, .int 3] t I L Rf (pv_is (some (.int (pv_b (x_un 4 3)))) t I L Rf) := by
  refine pv_mt mgX11_isUnder.2.2.2.2.2 [.int 4, .int 3, .retAddr 0, .retAddr 0] rfl (Nat.le_of_ble_eq_true rfl) ?_
  refine pv_know (fun hq => ?_)
  have hab : t.1 1 = some (.inl (.int, 7)) := (hq 1 (by decide)).1
  have hav : ∀ j, j < 7 → I 1 j = pv_above j := (hq 1 (by decide)).2 _ rfl
  refine pv_iload_0 (pc := 0) dX11_isUnder_0 ?_
  refine pv_istore_2 (pc := 1) dX11_isUnder_1 (by decide) rfl ?_
  refine pv_iconst (pc := 2) (v := 0) dX11_isUnder_2 (by decide) ?_
  refine pv_istore_3 (pc := 3) dX11_isUnder_3 (by decide) rfl ?_
  refine pv_iload_3 (pc := 4) dX11_isUnder_4 ?_
  refine pv_bipush (pc := 5) (v := 7) dX11_isUnder_5 (by decide) ?_
  refine pv_icmp_ge (pc := 7) (tgt := 34) dX11_isUnder_7 (by decide) (fun q => absurd q (by decide)) (fun _ => ?_)
  refine pv_iload_2 (pc := 10) dX11_isUnder_10 ?_
  refine pv_callS1 (pc := 11) dX11_isUnder_11 mgX11_isKind ls_X11_129 (by omega) (c_X11_isKind ) rfl rfl (by decide) ?_
  refine pv_topv2 (y := 1) (by decide) ?_
  refine pv_if_eq (pc := 14) (tgt := 34) dX11_isUnder_14 (by decide) (fun q => absurd q (by decide)) (fun _ => ?_)
  refine pv_iload_2 (pc := 17) dX11_isUnder_17 ?_
  refine pv_iload_1 (pc := 18) dX11_isUnder_18 ?_
  refine pv_icmp_eq (pc := 19) (tgt := 34) dX11_isUnder_19 (by decide) (fun q => absurd q (by decide)) (fun _ => ?_)
  refine pv_gsAbove (pc := 22) dX11_isUnder_22 sl_X11_345 ?_
  refine pv_iload_2 (pc := 25) dX11_isUnder_25 ?_
  refine pv_ialoadj (pc := 26) dX11_isUnder_26 hab (j := 4) (by decide) (by unfold vp_in; decide) ?_
  refine pv_topv2 (y := 0) (by rw [hav _ (by decide)]; decide) ?_
  refine pv_istore_2 (pc := 27) dX11_isUnder_27 (by decide) rfl ?_
  refine pv_iinc_3 (pc := 28) (v := 1) dX11_isUnder_28 (by decide) (by decide) rfl ?_
  refine pv_goto (pc := 31) (tgt := 4) dX11_isUnder_31 (by decide) ?_
  refine pv_iload_3 (pc := 4) dX11_isUnder_4 ?_
  refine pv_bipush (pc := 5) (v := 7) dX11_isUnder_5 (by decide) ?_
  refine pv_icmp_ge (pc := 7) (tgt := 34) dX11_isUnder_7 (by decide) (fun q => absurd q (by decide)) (fun _ => ?_)
  refine pv_iload_2 (pc := 10) dX11_isUnder_10 ?_
  refine pv_callS1 (pc := 11) dX11_isUnder_11 mgX11_isKind ls_X11_129 (by omega) (c_X11_isKind ) rfl rfl (by decide) ?_
  refine pv_topv2 (y := 1) (by decide) ?_
  refine pv_if_eq (pc := 14) (tgt := 34) dX11_isUnder_14 (by decide) (fun q => absurd q (by decide)) (fun _ => ?_)
  refine pv_iload_2 (pc := 17) dX11_isUnder_17 ?_
  refine pv_iload_1 (pc := 18) dX11_isUnder_18 ?_
  refine pv_icmp_eq (pc := 19) (tgt := 34) dX11_isUnder_19 (by decide) (fun q => absurd q (by decide)) (fun _ => ?_)
  refine pv_gsAbove (pc := 22) dX11_isUnder_22 sl_X11_345 ?_
  refine pv_iload_2 (pc := 25) dX11_isUnder_25 ?_
  refine pv_ialoadj (pc := 26) dX11_isUnder_26 hab (j := 0) (by decide) (by unfold vp_in; decide) ?_
  refine pv_topv2 (y := (-1)) (by rw [hav _ (by decide)]; decide) ?_
  refine pv_istore_2 (pc := 27) dX11_isUnder_27 (by decide) rfl ?_
  refine pv_iinc_3 (pc := 28) (v := 2) dX11_isUnder_28 (by decide) (by decide) rfl ?_
  refine pv_goto (pc := 31) (tgt := 4) dX11_isUnder_31 (by decide) ?_
  refine pv_iload_3 (pc := 4) dX11_isUnder_4 ?_
  refine pv_bipush (pc := 5) (v := 7) dX11_isUnder_5 (by decide) ?_
  refine pv_icmp_ge (pc := 7) (tgt := 34) dX11_isUnder_7 (by decide) (fun q => absurd q (by decide)) (fun _ => ?_)
  refine pv_iload_2 (pc := 10) dX11_isUnder_10 ?_
  refine pv_callS1 (pc := 11) dX11_isUnder_11 mgX11_isKind ls_X11_129 (by omega) (c_X11_isKind ) rfl rfl (by decide) ?_
  refine pv_topv2 (y := 0) (by decide) ?_
  refine pv_if_eq (pc := 14) (tgt := 34) dX11_isUnder_14 (by decide) (fun _ => ?_) (fun q => absurd q (by decide))
  refine pv_iload_2 (pc := 34) dX11_isUnder_34 ?_
  refine pv_iload_1 (pc := 35) dX11_isUnder_35 ?_
  refine pv_icmp_ne (pc := 36) (tgt := 43) dX11_isUnder_36 (by decide) (fun _ => ?_) (fun q => absurd q (by decide))
  refine pv_iconst (pc := 43) (v := 0) dX11_isUnder_43 (by decide) ?_
  refine pv_iret (pc := 44) dX11_isUnder_44 rfl rfl ?_
  exact ⟨rfl, rfl, rfl, rfl, rfl⟩

set_option maxRecDepth 100000 in
set_option maxHeartbeats 4000000 in
theorem c_un_4_4 {G : pv_G} {d : Nat} {t : pv_T} {I : pv_I} {L : pv_L} {Rf : pv_R} (hd : 1 ≤ d) : pv_Mt G mX11_isUnder d 0 0 [.int 4, .int 4] t I L Rf (pv_is (some (.int (pv_b (x_un 4 4)))) t I L Rf) := by
  refine pv_mt mgX11_isUnder.2.2.2.2.2 [.int 4, .int 4, .retAddr 0, .retAddr 0] rfl (Nat.le_of_ble_eq_true rfl) ?_
  refine pv_know (fun hq => ?_)
  have hab : t.1 1 = some (.inl (.int, 7)) := (hq 1 (by decide)).1
  have hav : ∀ j, j < 7 → I 1 j = pv_above j := (hq 1 (by decide)).2 _ rfl
  refine pv_iload_0 (pc := 0) dX11_isUnder_0 ?_
  refine pv_istore_2 (pc := 1) dX11_isUnder_1 (by decide) rfl ?_
  refine pv_iconst (pc := 2) (v := 0) dX11_isUnder_2 (by decide) ?_
  refine pv_istore_3 (pc := 3) dX11_isUnder_3 (by decide) rfl ?_
  refine pv_iload_3 (pc := 4) dX11_isUnder_4 ?_
  refine pv_bipush (pc := 5) (v := 7) dX11_isUnder_5 (by decide) ?_
  refine pv_icmp_ge (pc := 7) (tgt := 34) dX11_isUnder_7 (by decide) (fun q => absurd q (by decide)) (fun _ => ?_)
  refine pv_iload_2 (pc := 10) dX11_isUnder_10 ?_
  refine pv_callS1 (pc := 11) dX11_isUnder_11 mgX11_isKind ls_X11_129 (by omega) (c_X11_isKind ) rfl rfl (by decide) ?_
  refine pv_topv2 (y := 1) (by decide) ?_
  refine pv_if_eq (pc := 14) (tgt := 34) dX11_isUnder_14 (by decide) (fun q => absurd q (by decide)) (fun _ => ?_)
  refine pv_iload_2 (pc := 17) dX11_isUnder_17 ?_
  refine pv_iload_1 (pc := 18) dX11_isUnder_18 ?_
  refine pv_icmp_eq (pc := 19) (tgt := 34) dX11_isUnder_19 (by decide) (fun _ => ?_) (fun q => absurd q (by decide))
  refine pv_iload_2 (pc := 34) dX11_isUnder_34 ?_
  refine pv_iload_1 (pc := 35) dX11_isUnder_35 ?_
  refine pv_icmp_ne (pc := 36) (tgt := 43) dX11_isUnder_36 (by decide) (fun q => absurd q (by decide)) (fun _ => ?_)
  refine pv_iconst (pc := 39) (v := 1) dX11_isUnder_39 (by decide) ?_
  refine pv_goto (pc := 40) (tgt := 44) dX11_isUnder_40 (by decide) ?_
  refine pv_iret (pc := 44) dX11_isUnder_44 rfl rfl ?_
  exact ⟨rfl, rfl, rfl, rfl, rfl⟩

set_option maxRecDepth 100000 in
set_option maxHeartbeats 4000000 in
theorem c_un_4_5 {G : pv_G} {d : Nat} {t : pv_T} {I : pv_I} {L : pv_L} {Rf : pv_R} (hd : 1 ≤ d) : pv_Mt G mX11_isUnder d 0 0 [.int 4, .int 5] t I L Rf (pv_is (some (.int (pv_b (x_un 4 5)))) t I L Rf) := by
  refine pv_mt mgX11_isUnder.2.2.2.2.2 [.int 4, .int 5, .retAddr 0, .retAddr 0] rfl (Nat.le_of_ble_eq_true rfl) ?_
  refine pv_know (fun hq => ?_)
  have hab : t.1 1 = some (.inl (.int, 7)) := (hq 1 (by decide)).1
  have hav : ∀ j, j < 7 → I 1 j = pv_above j := (hq 1 (by decide)).2 _ rfl
  refine pv_iload_0 (pc := 0) dX11_isUnder_0 ?_
  refine pv_istore_2 (pc := 1) dX11_isUnder_1 (by decide) rfl ?_
  refine pv_iconst (pc := 2) (v := 0) dX11_isUnder_2 (by decide) ?_
  refine pv_istore_3 (pc := 3) dX11_isUnder_3 (by decide) rfl ?_
  refine pv_iload_3 (pc := 4) dX11_isUnder_4 ?_
  refine pv_bipush (pc := 5) (v := 7) dX11_isUnder_5 (by decide) ?_
  refine pv_icmp_ge (pc := 7) (tgt := 34) dX11_isUnder_7 (by decide) (fun q => absurd q (by decide)) (fun _ => ?_)
  refine pv_iload_2 (pc := 10) dX11_isUnder_10 ?_
  refine pv_callS1 (pc := 11) dX11_isUnder_11 mgX11_isKind ls_X11_129 (by omega) (c_X11_isKind ) rfl rfl (by decide) ?_
  refine pv_topv2 (y := 1) (by decide) ?_
  refine pv_if_eq (pc := 14) (tgt := 34) dX11_isUnder_14 (by decide) (fun q => absurd q (by decide)) (fun _ => ?_)
  refine pv_iload_2 (pc := 17) dX11_isUnder_17 ?_
  refine pv_iload_1 (pc := 18) dX11_isUnder_18 ?_
  refine pv_icmp_eq (pc := 19) (tgt := 34) dX11_isUnder_19 (by decide) (fun q => absurd q (by decide)) (fun _ => ?_)
  refine pv_gsAbove (pc := 22) dX11_isUnder_22 sl_X11_345 ?_
  refine pv_iload_2 (pc := 25) dX11_isUnder_25 ?_
  refine pv_ialoadj (pc := 26) dX11_isUnder_26 hab (j := 4) (by decide) (by unfold vp_in; decide) ?_
  refine pv_topv2 (y := 0) (by rw [hav _ (by decide)]; decide) ?_
  refine pv_istore_2 (pc := 27) dX11_isUnder_27 (by decide) rfl ?_
  refine pv_iinc_3 (pc := 28) (v := 1) dX11_isUnder_28 (by decide) (by decide) rfl ?_
  refine pv_goto (pc := 31) (tgt := 4) dX11_isUnder_31 (by decide) ?_
  refine pv_iload_3 (pc := 4) dX11_isUnder_4 ?_
  refine pv_bipush (pc := 5) (v := 7) dX11_isUnder_5 (by decide) ?_
  refine pv_icmp_ge (pc := 7) (tgt := 34) dX11_isUnder_7 (by decide) (fun q => absurd q (by decide)) (fun _ => ?_)
  refine pv_iload_2 (pc := 10) dX11_isUnder_10 ?_
  refine pv_callS1 (pc := 11) dX11_isUnder_11 mgX11_isKind ls_X11_129 (by omega) (c_X11_isKind ) rfl rfl (by decide) ?_
  refine pv_topv2 (y := 1) (by decide) ?_
  refine pv_if_eq (pc := 14) (tgt := 34) dX11_isUnder_14 (by decide) (fun q => absurd q (by decide)) (fun _ => ?_)
  refine pv_iload_2 (pc := 17) dX11_isUnder_17 ?_
  refine pv_iload_1 (pc := 18) dX11_isUnder_18 ?_
  refine pv_icmp_eq (pc := 19) (tgt := 34) dX11_isUnder_19 (by decide) (fun q => absurd q (by decide)) (fun _ => ?_)
  refine pv_gsAbove (pc := 22) dX11_isUnder_22 sl_X11_345 ?_
  refine pv_iload_2 (pc := 25) dX11_isUnder_25 ?_
  refine pv_ialoadj (pc := 26) dX11_isUnder_26 hab (j := 0) (by decide) (by unfold vp_in; decide) ?_
  refine pv_topv2 (y := (-1)) (by rw [hav _ (by decide)]; decide) ?_
  refine pv_istore_2 (pc := 27) dX11_isUnder_27 (by decide) rfl ?_
  refine pv_iinc_3 (pc := 28) (v := 2) dX11_isUnder_28 (by decide) (by decide) rfl ?_
  refine pv_goto (pc := 31) (tgt := 4) dX11_isUnder_31 (by decide) ?_
  refine pv_iload_3 (pc := 4) dX11_isUnder_4 ?_
  refine pv_bipush (pc := 5) (v := 7) dX11_isUnder_5 (by decide) ?_
  refine pv_icmp_ge (pc := 7) (tgt := 34) dX11_isUnder_7 (by decide) (fun q => absurd q (by decide)) (fun _ => ?_)
  refine pv_iload_2 (pc := 10) dX11_isUnder_10 ?_
  refine pv_callS1 (pc := 11) dX11_isUnder_11 mgX11_isKind ls_X11_129 (by omega) (c_X11_isKind ) rfl rfl (by decide) ?_
  refine pv_topv2 (y := 0) (by decide) ?_
  refine pv_if_eq (pc := 14) (tgt := 34) dX11_isUnder_14 (by decide) (fun _ => ?_) (fun q => absurd q (by decide))
  refine pv_iload_2 (pc := 34) dX11_isUnder_34 ?_
  refine pv_iload_1 (pc := 35) dX11_isUnder_35 ?_
  refine pv_icmp_ne (pc := 36) (tgt := 43) dX11_isUnder_36 (by decide) (fun _ => ?_) (fun q => absurd q (by decide))
  refine pv_iconst (pc := 43) (v := 0) dX11_isUnder_43 (by decide) ?_
  refine pv_iret (pc := 44) dX11_isUnder_44 rfl rfl ?_
  exact ⟨rfl, rfl, rfl, rfl, rfl⟩

set_option maxRecDepth 100000 in
set_option maxHeartbeats 4000000 in
theorem c_un_4_6 {G : pv_G} {d : Nat} {t : pv_T} {I : pv_I} {L : pv_L} {Rf : pv_R} (hd : 1 ≤ d) : pv_Mt G mX11_isUnder d 0 0 [.int 4, .int 6] t I L Rf (pv_is (some (.int (pv_b (x_un 4 6)))) t I L Rf) := by
  refine pv_mt mgX11_isUnder.2.2.2.2.2 [.int 4, .int 6, .retAddr 0, .retAddr 0] rfl (Nat.le_of_ble_eq_true rfl) ?_
  refine pv_know (fun hq => ?_)
  have hab : t.1 1 = some (.inl (.int, 7)) := (hq 1 (by decide)).1
  have hav : ∀ j, j < 7 → I 1 j = pv_above j := (hq 1 (by decide)).2 _ rfl
  refine pv_iload_0 (pc := 0) dX11_isUnder_0 ?_
  refine pv_istore_2 (pc := 1) dX11_isUnder_1 (by decide) rfl ?_
  refine pv_iconst (pc := 2) (v := 0) dX11_isUnder_2 (by decide) ?_
  refine pv_istore_3 (pc := 3) dX11_isUnder_3 (by decide) rfl ?_
  refine pv_iload_3 (pc := 4) dX11_isUnder_4 ?_
  refine pv_bipush (pc := 5) (v := 7) dX11_isUnder_5 (by decide) ?_
  refine pv_icmp_ge (pc := 7) (tgt := 34) dX11_isUnder_7 (by decide) (fun q => absurd q (by decide)) (fun _ => ?_)
  refine pv_iload_2 (pc := 10) dX11_isUnder_10 ?_
  refine pv_callS1 (pc := 11) dX11_isUnder_11 mgX11_isKind ls_X11_129 (by omega) (c_X11_isKind ) rfl rfl (by decide) ?_
  refine pv_topv2 (y := 1) (by decide) ?_
  refine pv_if_eq (pc := 14) (tgt := 34) dX11_isUnder_14 (by decide) (fun q => absurd q (by decide)) (fun _ => ?_)
  refine pv_iload_2 (pc := 17) dX11_isUnder_17 ?_
  refine pv_iload_1 (pc := 18) dX11_isUnder_18 ?_
  refine pv_icmp_eq (pc := 19) (tgt := 34) dX11_isUnder_19 (by decide) (fun q => absurd q (by decide)) (fun _ => ?_)
  refine pv_gsAbove (pc := 22) dX11_isUnder_22 sl_X11_345 ?_
  refine pv_iload_2 (pc := 25) dX11_isUnder_25 ?_
  refine pv_ialoadj (pc := 26) dX11_isUnder_26 hab (j := 4) (by decide) (by unfold vp_in; decide) ?_
  refine pv_topv2 (y := 0) (by rw [hav _ (by decide)]; decide) ?_
  refine pv_istore_2 (pc := 27) dX11_isUnder_27 (by decide) rfl ?_
  refine pv_iinc_3 (pc := 28) (v := 1) dX11_isUnder_28 (by decide) (by decide) rfl ?_
  refine pv_goto (pc := 31) (tgt := 4) dX11_isUnder_31 (by decide) ?_
  refine pv_iload_3 (pc := 4) dX11_isUnder_4 ?_
  refine pv_bipush (pc := 5) (v := 7) dX11_isUnder_5 (by decide) ?_
  refine pv_icmp_ge (pc := 7) (tgt := 34) dX11_isUnder_7 (by decide) (fun q => absurd q (by decide)) (fun _ => ?_)
  refine pv_iload_2 (pc := 10) dX11_isUnder_10 ?_
  refine pv_callS1 (pc := 11) dX11_isUnder_11 mgX11_isKind ls_X11_129 (by omega) (c_X11_isKind ) rfl rfl (by decide) ?_
  refine pv_topv2 (y := 1) (by decide) ?_
  refine pv_if_eq (pc := 14) (tgt := 34) dX11_isUnder_14 (by decide) (fun q => absurd q (by decide)) (fun _ => ?_)
  refine pv_iload_2 (pc := 17) dX11_isUnder_17 ?_
  refine pv_iload_1 (pc := 18) dX11_isUnder_18 ?_
  refine pv_icmp_eq (pc := 19) (tgt := 34) dX11_isUnder_19 (by decide) (fun q => absurd q (by decide)) (fun _ => ?_)
  refine pv_gsAbove (pc := 22) dX11_isUnder_22 sl_X11_345 ?_
  refine pv_iload_2 (pc := 25) dX11_isUnder_25 ?_
  refine pv_ialoadj (pc := 26) dX11_isUnder_26 hab (j := 0) (by decide) (by unfold vp_in; decide) ?_
  refine pv_topv2 (y := (-1)) (by rw [hav _ (by decide)]; decide) ?_
  refine pv_istore_2 (pc := 27) dX11_isUnder_27 (by decide) rfl ?_
  refine pv_iinc_3 (pc := 28) (v := 2) dX11_isUnder_28 (by decide) (by decide) rfl ?_
  refine pv_goto (pc := 31) (tgt := 4) dX11_isUnder_31 (by decide) ?_
  refine pv_iload_3 (pc := 4) dX11_isUnder_4 ?_
  refine pv_bipush (pc := 5) (v := 7) dX11_isUnder_5 (by decide) ?_
  refine pv_icmp_ge (pc := 7) (tgt := 34) dX11_isUnder_7 (by decide) (fun q => absurd q (by decide)) (fun _ => ?_)
  refine pv_iload_2 (pc := 10) dX11_isUnder_10 ?_
  refine pv_callS1 (pc := 11) dX11_isUnder_11 mgX11_isKind ls_X11_129 (by omega) (c_X11_isKind ) rfl rfl (by decide) ?_
  refine pv_topv2 (y := 0) (by decide) ?_
  refine pv_if_eq (pc := 14) (tgt := 34) dX11_isUnder_14 (by decide) (fun _ => ?_) (fun q => absurd q (by decide))
  refine pv_iload_2 (pc := 34) dX11_isUnder_34 ?_
  refine pv_iload_1 (pc := 35) dX11_isUnder_35 ?_
  refine pv_icmp_ne (pc := 36) (tgt := 43) dX11_isUnder_36 (by decide) (fun _ => ?_) (fun q => absurd q (by decide))
  refine pv_iconst (pc := 43) (v := 0) dX11_isUnder_43 (by decide) ?_
  refine pv_iret (pc := 44) dX11_isUnder_44 rfl rfl ?_
  exact ⟨rfl, rfl, rfl, rfl, rfl⟩

set_option maxRecDepth 100000 in
set_option maxHeartbeats 4000000 in
theorem c_un_5_0 {G : pv_G} {d : Nat} {t : pv_T} {I : pv_I} {L : pv_L} {Rf : pv_R} (hd : 1 ≤ d) : pv_Mt G mX11_isUnder d 0 0 [.int 5, .int 0] t I L Rf (pv_is (some (.int (pv_b (x_un 5 0)))) t I L Rf) := by
  refine pv_mt mgX11_isUnder.2.2.2.2.2 [.int 5, .int 0, .retAddr 0, .retAddr 0] rfl (Nat.le_of_ble_eq_true rfl) ?_
  refine pv_know (fun hq => ?_)
  have hab : t.1 1 = some (.inl (.int, 7)) := (hq 1 (by decide)).1
  have hav : ∀ j, j < 7 → I 1 j = pv_above j := (hq 1 (by decide)).2 _ rfl
  refine pv_iload_0 (pc := 0) dX11_isUnder_0 ?_
  refine pv_istore_2 (pc := 1) dX11_isUnder_1 (by decide) rfl ?_
  refine pv_iconst (pc := 2) (v := 0) dX11_isUnder_2 (by decide) ?_
  refine pv_istore_3 (pc := 3) dX11_isUnder_3 (by decide) rfl ?_
  refine pv_iload_3 (pc := 4) dX11_isUnder_4 ?_
  refine pv_bipush (pc := 5) (v := 7) dX11_isUnder_5 (by decide) ?_
  refine pv_icmp_ge (pc := 7) (tgt := 34) dX11_isUnder_7 (by decide) (fun q => absurd q (by decide)) (fun _ => ?_)
  refine pv_iload_2 (pc := 10) dX11_isUnder_10 ?_
  refine pv_callS1 (pc := 11) dX11_isUnder_11 mgX11_isKind ls_X11_129 (by omega) (c_X11_isKind ) rfl rfl (by decide) ?_
  refine pv_topv2 (y := 1) (by decide) ?_
  refine pv_if_eq (pc := 14) (tgt := 34) dX11_isUnder_14 (by decide) (fun q => absurd q (by decide)) (fun _ => ?_)
  refine pv_iload_2 (pc := 17) dX11_isUnder_17 ?_
  refine pv_iload_1 (pc := 18) dX11_isUnder_18 ?_
  refine pv_icmp_eq (pc := 19) (tgt := 34) dX11_isUnder_19 (by decide) (fun q => absurd q (by decide)) (fun _ => ?_)
  refine pv_gsAbove (pc := 22) dX11_isUnder_22 sl_X11_345 ?_
  refine pv_iload_2 (pc := 25) dX11_isUnder_25 ?_
  refine pv_ialoadj (pc := 26) dX11_isUnder_26 hab (j := 5) (by decide) (by unfold vp_in; decide) ?_
  refine pv_topv2 (y := 4) (by rw [hav _ (by decide)]; decide) ?_
  refine pv_istore_2 (pc := 27) dX11_isUnder_27 (by decide) rfl ?_
  refine pv_iinc_3 (pc := 28) (v := 1) dX11_isUnder_28 (by decide) (by decide) rfl ?_
  refine pv_goto (pc := 31) (tgt := 4) dX11_isUnder_31 (by decide) ?_
  refine pv_iload_3 (pc := 4) dX11_isUnder_4 ?_
  refine pv_bipush (pc := 5) (v := 7) dX11_isUnder_5 (by decide) ?_
  refine pv_icmp_ge (pc := 7) (tgt := 34) dX11_isUnder_7 (by decide) (fun q => absurd q (by decide)) (fun _ => ?_)
  refine pv_iload_2 (pc := 10) dX11_isUnder_10 ?_
  refine pv_callS1 (pc := 11) dX11_isUnder_11 mgX11_isKind ls_X11_129 (by omega) (c_X11_isKind ) rfl rfl (by decide) ?_
  refine pv_topv2 (y := 1) (by decide) ?_
  refine pv_if_eq (pc := 14) (tgt := 34) dX11_isUnder_14 (by decide) (fun q => absurd q (by decide)) (fun _ => ?_)
  refine pv_iload_2 (pc := 17) dX11_isUnder_17 ?_
  refine pv_iload_1 (pc := 18) dX11_isUnder_18 ?_
  refine pv_icmp_eq (pc := 19) (tgt := 34) dX11_isUnder_19 (by decide) (fun q => absurd q (by decide)) (fun _ => ?_)
  refine pv_gsAbove (pc := 22) dX11_isUnder_22 sl_X11_345 ?_
  refine pv_iload_2 (pc := 25) dX11_isUnder_25 ?_
  refine pv_ialoadj (pc := 26) dX11_isUnder_26 hab (j := 4) (by decide) (by unfold vp_in; decide) ?_
  refine pv_topv2 (y := 0) (by rw [hav _ (by decide)]; decide) ?_
  refine pv_istore_2 (pc := 27) dX11_isUnder_27 (by decide) rfl ?_
  refine pv_iinc_3 (pc := 28) (v := 2) dX11_isUnder_28 (by decide) (by decide) rfl ?_
  refine pv_goto (pc := 31) (tgt := 4) dX11_isUnder_31 (by decide) ?_
  refine pv_iload_3 (pc := 4) dX11_isUnder_4 ?_
  refine pv_bipush (pc := 5) (v := 7) dX11_isUnder_5 (by decide) ?_
  refine pv_icmp_ge (pc := 7) (tgt := 34) dX11_isUnder_7 (by decide) (fun q => absurd q (by decide)) (fun _ => ?_)
  refine pv_iload_2 (pc := 10) dX11_isUnder_10 ?_
  refine pv_callS1 (pc := 11) dX11_isUnder_11 mgX11_isKind ls_X11_129 (by omega) (c_X11_isKind ) rfl rfl (by decide) ?_
  refine pv_topv2 (y := 1) (by decide) ?_
  refine pv_if_eq (pc := 14) (tgt := 34) dX11_isUnder_14 (by decide) (fun q => absurd q (by decide)) (fun _ => ?_)
  refine pv_iload_2 (pc := 17) dX11_isUnder_17 ?_
  refine pv_iload_1 (pc := 18) dX11_isUnder_18 ?_
  refine pv_icmp_eq (pc := 19) (tgt := 34) dX11_isUnder_19 (by decide) (fun _ => ?_) (fun q => absurd q (by decide))
  refine pv_iload_2 (pc := 34) dX11_isUnder_34 ?_
  refine pv_iload_1 (pc := 35) dX11_isUnder_35 ?_
  refine pv_icmp_ne (pc := 36) (tgt := 43) dX11_isUnder_36 (by decide) (fun q => absurd q (by decide)) (fun _ => ?_)
  refine pv_iconst (pc := 39) (v := 1) dX11_isUnder_39 (by decide) ?_
  refine pv_goto (pc := 40) (tgt := 44) dX11_isUnder_40 (by decide) ?_
  refine pv_iret (pc := 44) dX11_isUnder_44 rfl rfl ?_
  exact ⟨rfl, rfl, rfl, rfl, rfl⟩

set_option maxRecDepth 100000 in
set_option maxHeartbeats 4000000 in
theorem c_un_5_1 {G : pv_G} {d : Nat} {t : pv_T} {I : pv_I} {L : pv_L} {Rf : pv_R} (hd : 1 ≤ d) : pv_Mt G mX11_isUnder d 0 0 [.int 5, .int 1] t I L Rf (pv_is (some (.int (pv_b (x_un 5 1)))) t I L Rf) := by
  refine pv_mt mgX11_isUnder.2.2.2.2.2 [.int 5, .int 1, .retAddr 0, .retAddr 0] rfl (Nat.le_of_ble_eq_true rfl) ?_
  refine pv_know (fun hq => ?_)
  have hab : t.1 1 = some (.inl (.int, 7)) := (hq 1 (by decide)).1
  have hav : ∀ j, j < 7 → I 1 j = pv_above j := (hq 1 (by decide)).2 _ rfl
  refine pv_iload_0 (pc := 0) dX11_isUnder_0 ?_
  refine pv_istore_2 (pc := 1) dX11_isUnder_1 (by decide) rfl ?_
  refine pv_iconst (pc := 2) (v := 0) dX11_isUnder_2 (by decide) ?_
  refine pv_istore_3 (pc := 3) dX11_isUnder_3 (by decide) rfl ?_
  refine pv_iload_3 (pc := 4) dX11_isUnder_4 ?_
  refine pv_bipush (pc := 5) (v := 7) dX11_isUnder_5 (by decide) ?_
  refine pv_icmp_ge (pc := 7) (tgt := 34) dX11_isUnder_7 (by decide) (fun q => absurd q (by decide)) (fun _ => ?_)
  refine pv_iload_2 (pc := 10) dX11_isUnder_10 ?_
  refine pv_callS1 (pc := 11) dX11_isUnder_11 mgX11_isKind ls_X11_129 (by omega) (c_X11_isKind ) rfl rfl (by decide) ?_
  refine pv_topv2 (y := 1) (by decide) ?_
  refine pv_if_eq (pc := 14) (tgt := 34) dX11_isUnder_14 (by decide) (fun q => absurd q (by decide)) (fun _ => ?_)
  refine pv_iload_2 (pc := 17) dX11_isUnder_17 ?_
  refine pv_iload_1 (pc := 18) dX11_isUnder_18 ?_
  refine pv_icmp_eq (pc := 19) (tgt := 34) dX11_isUnder_19 (by decide) (fun q => absurd q (by decide)) (fun _ => ?_)
  refine pv_gsAbove (pc := 22) dX11_isUnder_22 sl_X11_345 ?_
  refine pv_iload_2 (pc := 25) dX11_isUnder_25 ?_
  refine pv_ialoadj (pc := 26) dX11_isUnder_26 hab (j := 5) (by decide) (by unfold vp_in; decide) ?_
  refine pv_topv2 (y := 4) (by rw [hav _ (by decide)]; decide) ?_
  refine pv_istore_2 (pc := 27) dX11_isUnder_27 (by decide) rfl ?_
  refine pv_iinc_3 (pc := 28) (v := 1) dX11_isUnder_28 (by decide) (by decide) rfl ?_
  refine pv_goto (pc := 31) (tgt := 4) dX11_isUnder_31 (by decide) ?_
  refine pv_iload_3 (pc := 4) dX11_isUnder_4 ?_
  refine pv_bipush (pc := 5) (v := 7) dX11_isUnder_5 (by decide) ?_
  refine pv_icmp_ge (pc := 7) (tgt := 34) dX11_isUnder_7 (by decide) (fun q => absurd q (by decide)) (fun _ => ?_)
  refine pv_iload_2 (pc := 10) dX11_isUnder_10 ?_
  refine pv_callS1 (pc := 11) dX11_isUnder_11 mgX11_isKind ls_X11_129 (by omega) (c_X11_isKind ) rfl rfl (by decide) ?_
  refine pv_topv2 (y := 1) (by decide) ?_
  refine pv_if_eq (pc := 14) (tgt := 34) dX11_isUnder_14 (by decide) (fun q => absurd q (by decide)) (fun _ => ?_)
  refine pv_iload_2 (pc := 17) dX11_isUnder_17 ?_
  refine pv_iload_1 (pc := 18) dX11_isUnder_18 ?_
  refine pv_icmp_eq (pc := 19) (tgt := 34) dX11_isUnder_19 (by decide) (fun q => absurd q (by decide)) (fun _ => ?_)
  refine pv_gsAbove (pc := 22) dX11_isUnder_22 sl_X11_345 ?_
  refine pv_iload_2 (pc := 25) dX11_isUnder_25 ?_
  refine pv_ialoadj (pc := 26) dX11_isUnder_26 hab (j := 4) (by decide) (by unfold vp_in; decide) ?_
  refine pv_topv2 (y := 0) (by rw [hav _ (by decide)]; decide) ?_
  refine pv_istore_2 (pc := 27) dX11_isUnder_27 (by decide) rfl ?_
  refine pv_iinc_3 (pc := 28) (v := 2) dX11_isUnder_28 (by decide) (by decide) rfl ?_
  refine pv_goto (pc := 31) (tgt := 4) dX11_isUnder_31 (by decide) ?_
  refine pv_iload_3 (pc := 4) dX11_isUnder_4 ?_
  refine pv_bipush (pc := 5) (v := 7) dX11_isUnder_5 (by decide) ?_
  refine pv_icmp_ge (pc := 7) (tgt := 34) dX11_isUnder_7 (by decide) (fun q => absurd q (by decide)) (fun _ => ?_)
  refine pv_iload_2 (pc := 10) dX11_isUnder_10 ?_
  refine pv_callS1 (pc := 11) dX11_isUnder_11 mgX11_isKind ls_X11_129 (by omega) (c_X11_isKind ) rfl rfl (by decide) ?_
  refine pv_topv2 (y := 1) (by decide) ?_
  refine pv_if_eq (pc := 14) (tgt := 34) dX11_isUnder_14 (by decide) (fun q => absurd q (by decide)) (fun _ => ?_)
  refine pv_iload_2 (pc := 17) dX11_isUnder_17 ?_
  refine pv_iload_1 (pc := 18) dX11_isUnder_18 ?_
  refine pv_icmp_eq (pc := 19) (tgt := 34) dX11_isUnder_19 (by decide) (fun q => absurd q (by decide)) (fun _ => ?_)
  refine pv_gsAbove (pc := 22) dX11_isUnder_22 sl_X11_345 ?_
  refine pv_iload_2 (pc := 25) dX11_isUnder_25 ?_
  refine pv_ialoadj (pc := 26) dX11_isUnder_26 hab (j := 0) (by decide) (by unfold vp_in; decide) ?_
  refine pv_topv2 (y := (-1)) (by rw [hav _ (by decide)]; decide) ?_
  refine pv_istore_2 (pc := 27) dX11_isUnder_27 (by decide) rfl ?_
  refine pv_iinc_3 (pc := 28) (v := 3) dX11_isUnder_28 (by decide) (by decide) rfl ?_
  refine pv_goto (pc := 31) (tgt := 4) dX11_isUnder_31 (by decide) ?_
  refine pv_iload_3 (pc := 4) dX11_isUnder_4 ?_
  refine pv_bipush (pc := 5) (v := 7) dX11_isUnder_5 (by decide) ?_
  refine pv_icmp_ge (pc := 7) (tgt := 34) dX11_isUnder_7 (by decide) (fun q => absurd q (by decide)) (fun _ => ?_)
  refine pv_iload_2 (pc := 10) dX11_isUnder_10 ?_
  refine pv_callS1 (pc := 11) dX11_isUnder_11 mgX11_isKind ls_X11_129 (by omega) (c_X11_isKind ) rfl rfl (by decide) ?_
  refine pv_topv2 (y := 0) (by decide) ?_
  refine pv_if_eq (pc := 14) (tgt := 34) dX11_isUnder_14 (by decide) (fun _ => ?_) (fun q => absurd q (by decide))
  refine pv_iload_2 (pc := 34) dX11_isUnder_34 ?_
  refine pv_iload_1 (pc := 35) dX11_isUnder_35 ?_
  refine pv_icmp_ne (pc := 36) (tgt := 43) dX11_isUnder_36 (by decide) (fun _ => ?_) (fun q => absurd q (by decide))
  refine pv_iconst (pc := 43) (v := 0) dX11_isUnder_43 (by decide) ?_
  refine pv_iret (pc := 44) dX11_isUnder_44 rfl rfl ?_
  exact ⟨rfl, rfl, rfl, rfl, rfl⟩

set_option maxRecDepth 100000 in
set_option maxHeartbeats 4000000 in
theorem c_un_5_2 {G : pv_G} {d : Nat} {t : pv_T} {I : pv_I} {L : pv_L} {Rf : pv_R} (hd : 1 ≤ d) : pv_Mt G mX11_isUnder d 0 0 [.int 5, .int 2] t I L Rf (pv_is (some (.int (pv_b (x_un 5 2)))) t I L Rf) := by
  refine pv_mt mgX11_isUnder.2.2.2.2.2 [.int 5, .int 2, .retAddr 0, .retAddr 0] rfl (Nat.le_of_ble_eq_true rfl) ?_
  refine pv_know (fun hq => ?_)
  have hab : t.1 1 = some (.inl (.int, 7)) := (hq 1 (by decide)).1
  have hav : ∀ j, j < 7 → I 1 j = pv_above j := (hq 1 (by decide)).2 _ rfl
  refine pv_iload_0 (pc := 0) dX11_isUnder_0 ?_
  refine pv_istore_2 (pc := 1) dX11_isUnder_1 (by decide) rfl ?_
  refine pv_iconst (pc := 2) (v := 0) dX11_isUnder_2 (by decide) ?_
  refine pv_istore_3 (pc := 3) dX11_isUnder_3 (by decide) rfl ?_
  refine pv_iload_3 (pc := 4) dX11_isUnder_4 ?_
  refine pv_bipush (pc := 5) (v := 7) dX11_isUnder_5 (by decide) ?_
  refine pv_icmp_ge (pc := 7) (tgt := 34) dX11_isUnder_7 (by decide) (fun q => absurd q (by decide)) (fun _ => ?_)
  refine pv_iload_2 (pc := 10) dX11_isUnder_10 ?_
  refine pv_callS1 (pc := 11) dX11_isUnder_11 mgX11_isKind ls_X11_129 (by omega) (c_X11_isKind ) rfl rfl (by decide) ?_
  refine pv_topv2 (y := 1) (by decide) ?_
  refine pv_if_eq (pc := 14) (tgt := 34) dX11_isUnder_14 (by decide) (fun q => absurd q (by decide)) (fun _ => ?_)
  refine pv_iload_2 (pc := 17) dX11_isUnder_17 ?_
  refine pv_iload_1 (pc := 18) dX11_isUnder_18 ?_
  refine pv_icmp_eq (pc := 19) (tgt := 34) dX11_isUnder_19 (by decide) (fun q => absurd q (by decide)) (fun _ => ?_)
  refine pv_gsAbove (pc := 22) dX11_isUnder_22 sl_X11_345 ?_
  refine pv_iload_2 (pc := 25) dX11_isUnder_25 ?_
  refine pv_ialoadj (pc := 26) dX11_isUnder_26 hab (j := 5) (by decide) (by unfold vp_in; decide) ?_
  refine pv_topv2 (y := 4) (by rw [hav _ (by decide)]; decide) ?_
  refine pv_istore_2 (pc := 27) dX11_isUnder_27 (by decide) rfl ?_
  refine pv_iinc_3 (pc := 28) (v := 1) dX11_isUnder_28 (by decide) (by decide) rfl ?_
  refine pv_goto (pc := 31) (tgt := 4) dX11_isUnder_31 (by decide) ?_
  refine pv_iload_3 (pc := 4) dX11_isUnder_4 ?_
  refine pv_bipush (pc := 5) (v := 7) dX11_isUnder_5 (by decide) ?_
  refine pv_icmp_ge (pc := 7) (tgt := 34) dX11_isUnder_7 (by decide) (fun q => absurd q (by decide)) (fun _ => ?_)
  refine pv_iload_2 (pc := 10) dX11_isUnder_10 ?_
  refine pv_callS1 (pc := 11) dX11_isUnder_11 mgX11_isKind ls_X11_129 (by omega) (c_X11_isKind ) rfl rfl (by decide) ?_
  refine pv_topv2 (y := 1) (by decide) ?_
  refine pv_if_eq (pc := 14) (tgt := 34) dX11_isUnder_14 (by decide) (fun q => absurd q (by decide)) (fun _ => ?_)
  refine pv_iload_2 (pc := 17) dX11_isUnder_17 ?_
  refine pv_iload_1 (pc := 18) dX11_isUnder_18 ?_
  refine pv_icmp_eq (pc := 19) (tgt := 34) dX11_isUnder_19 (by decide) (fun q => absurd q (by decide)) (fun _ => ?_)
  refine pv_gsAbove (pc := 22) dX11_isUnder_22 sl_X11_345 ?_
  refine pv_iload_2 (pc := 25) dX11_isUnder_25 ?_
  refine pv_ialoadj (pc := 26) dX11_isUnder_26 hab (j := 4) (by decide) (by unfold vp_in; decide) ?_
  refine pv_topv2 (y := 0) (by rw [hav _ (by decide)]; decide) ?_
  refine pv_istore_2 (pc := 27) dX11_isUnder_27 (by decide) rfl ?_
  refine pv_iinc_3 (pc := 28) (v := 2) dX11_isUnder_28 (by decide) (by decide) rfl ?_
  refine pv_goto (pc := 31) (tgt := 4) dX11_isUnder_31 (by decide) ?_
  refine pv_iload_3 (pc := 4) dX11_isUnder_4 ?_
  refine pv_bipush (pc := 5) (v := 7) dX11_isUnder_5 (by decide) ?_
  refine pv_icmp_ge (pc := 7) (tgt := 34) dX11_isUnder_7 (by decide) (fun q => absurd q (by decide)) (fun _ => ?_)
  refine pv_iload_2 (pc := 10) dX11_isUnder_10 ?_
  refine pv_callS1 (pc := 11) dX11_isUnder_11 mgX11_isKind ls_X11_129 (by omega) (c_X11_isKind ) rfl rfl (by decide) ?_
  refine pv_topv2 (y := 1) (by decide) ?_
  refine pv_if_eq (pc := 14) (tgt := 34) dX11_isUnder_14 (by decide) (fun q => absurd q (by decide)) (fun _ => ?_)
  refine pv_iload_2 (pc := 17) dX11_isUnder_17 ?_
  refine pv_iload_1 (pc := 18) dX11_isUnder_18 ?_
  refine pv_icmp_eq (pc := 19) (tgt := 34) dX11_isUnder_19 (by decide) (fun q => absurd q (by decide)) (fun _ => ?_)
  refine pv_gsAbove (pc := 22) dX11_isUnder_22 sl_X11_345 ?_
  refine pv_iload_2 (pc := 25) dX11_isUnder_25 ?_
  refine pv_ialoadj (pc := 26) dX11_isUnder_26 hab (j := 0) (by decide) (by unfold vp_in; decide) ?_
  refine pv_topv2 (y := (-1)) (by rw [hav _ (by decide)]; decide) ?_
  refine pv_istore_2 (pc := 27) dX11_isUnder_27 (by decide) rfl ?_
  refine pv_iinc_3 (pc := 28) (v := 3) dX11_isUnder_28 (by decide) (by decide) rfl ?_
  refine pv_goto (pc := 31) (tgt := 4) dX11_isUnder_31 (by decide) ?_
  refine pv_iload_3 (pc := 4) dX11_isUnder_4 ?_
  refine pv_bipush (pc := 5) (v := 7) dX11_isUnder_5 (by decide) ?_
  refine pv_icmp_ge (pc := 7) (tgt := 34) dX11_isUnder_7 (by decide) (fun q => absurd q (by decide)) (fun _ => ?_)
  refine pv_iload_2 (pc := 10) dX11_isUnder_10 ?_
  refine pv_callS1 (pc := 11) dX11_isUnder_11 mgX11_isKind ls_X11_129 (by omega) (c_X11_isKind ) rfl rfl (by decide) ?_
  refine pv_topv2 (y := 0) (by decide) ?_
  refine pv_if_eq (pc := 14) (tgt := 34) dX11_isUnder_14 (by decide) (fun _ => ?_) (fun q => absurd q (by decide))
  refine pv_iload_2 (pc := 34) dX11_isUnder_34 ?_
  refine pv_iload_1 (pc := 35) dX11_isUnder_35 ?_
  refine pv_icmp_ne (pc := 36) (tgt := 43) dX11_isUnder_36 (by decide) (fun _ => ?_) (fun q => absurd q (by decide))
  refine pv_iconst (pc := 43) (v := 0) dX11_isUnder_43 (by decide) ?_
  refine pv_iret (pc := 44) dX11_isUnder_44 rfl rfl ?_
  exact ⟨rfl, rfl, rfl, rfl, rfl⟩

set_option maxRecDepth 100000 in
set_option maxHeartbeats 4000000 in
theorem c_un_5_3 {G : pv_G} {d : Nat} {t : pv_T} {I : pv_I} {L : pv_L} {Rf : pv_R} (hd : 1 ≤ d) : pv_Mt G mX11_isUnder d 0 0 [.int 5, .int 3] t I L Rf (pv_is (some (.int (pv_b (x_un 5 3)))) t I L Rf) := by
  refine pv_mt mgX11_isUnder.2.2.2.2.2 [.int 5, .int 3, .retAddr 0, .retAddr 0] rfl (Nat.le_of_ble_eq_true rfl) ?_
  refine pv_know (fun hq => ?_)
  have hab : t.1 1 = some (.inl (.int, 7)) := (hq 1 (by decide)).1
  have hav : ∀ j, j < 7 → I 1 j = pv_above j := (hq 1 (by decide)).2 _ rfl
  refine pv_iload_0 (pc := 0) dX11_isUnder_0 ?_
  refine pv_istore_2 (pc := 1) dX11_isUnder_1 (by decide) rfl ?_
  refine pv_iconst (pc := 2) (v := 0) dX11_isUnder_2 (by decide) ?_
  refine pv_istore_3 (pc := 3) dX11_isUnder_3 (by decide) rfl ?_
  refine pv_iload_3 (pc := 4) dX11_isUnder_4 ?_
  refine pv_bipush (pc := 5) (v := 7) dX11_isUnder_5 (by decide) ?_
  refine pv_icmp_ge (pc := 7) (tgt := 34) dX11_isUnder_7 (by decide) (fun q => absurd q (by decide)) (fun _ => ?_)
  refine pv_iload_2 (pc := 10) dX11_isUnder_10 ?_
  refine pv_callS1 (pc := 11) dX11_isUnder_11 mgX11_isKind ls_X11_129 (by omega) (c_X11_isKind ) rfl rfl (by decide) ?_
  refine pv_topv2 (y := 1) (by decide) ?_
  refine pv_if_eq (pc := 14) (tgt := 34) dX11_isUnder_14 (by decide) (fun q => absurd q (by decide)) (fun _ => ?_)
  refine pv_iload_2 (pc := 17) dX11_isUnder_17 ?_
  refine pv_iload_1 (pc := 18) dX11_isUnder_18 ?_
  refine pv_icmp_eq (pc := 19) (tgt := 34) dX11_isUnder_19 (by decide) (fun q => absurd q (by decide)) (fun _ => ?_)
  refine pv_gsAbove (pc := 22) dX11_isUnder_22 sl_X11_345 ?_
  refine pv_iload_2 (pc := 25) dX11_isUnder_25 ?_
  refine pv_ialoadj (pc := 26) dX11_isUnder_26 hab (j := 5) (by decide) (by unfold vp_in; decide) ?_
  refine pv_topv2 (y := 4) (by rw [hav _ (by decide)]; decide) ?_
  refine pv_istore_2 (pc := 27) dX11_isUnder_27 (by decide) rfl ?_
  refine pv_iinc_3 (pc := 28) (v := 1) dX11_isUnder_28 (by decide) (by decide) rfl ?_
  refine pv_goto (pc := 31) (tgt := 4) dX11_isUnder_31 (by decide) ?_
  refine pv_iload_3 (pc := 4) dX11_isUnder_4 ?_
  refine pv_bipush (pc := 5) (v := 7) dX11_isUnder_5 (by decide) ?_
  refine pv_icmp_ge (pc := 7) (tgt := 34) dX11_isUnder_7 (by decide) (fun q => absurd q (by decide)) (fun _ => ?_)
  refine pv_iload_2 (pc := 10) dX11_isUnder_10 ?_
  refine pv_callS1 (pc := 11) dX11_isUnder_11 mgX11_isKind ls_X11_129 (by omega) (c_X11_isKind ) rfl rfl (by decide) ?_
  refine pv_topv2 (y := 1) (by decide) ?_
  refine pv_if_eq (pc := 14) (tgt := 34) dX11_isUnder_14 (by decide) (fun q => absurd q (by decide)) (fun _ => ?_)
  refine pv_iload_2 (pc := 17) dX11_isUnder_17 ?_
  refine pv_iload_1 (pc := 18) dX11_isUnder_18 ?_
  refine pv_icmp_eq (pc := 19) (tgt := 34) dX11_isUnder_19 (by decide) (fun q => absurd q (by decide)) (fun _ => ?_)
  refine pv_gsAbove (pc := 22) dX11_isUnder_22 sl_X11_345 ?_
  refine pv_iload_2 (pc := 25) dX11_isUnder_25 ?_
  refine pv_ialoadj (pc := 26) dX11_isUnder_26 hab (j := 4) (by decide) (by unfold vp_in; decide) ?_
  refine pv_topv2 (y := 0) (by rw [hav _ (by decide)]; decide) ?_
  refine pv_istore_2 (pc := 27) dX11_isUnder_27 (by decide) rfl ?_
  refine pv_iinc_3 (pc := 28) (v := 2) dX11_isUnder_28 (by decide) (by decide) rfl ?_
  refine pv_goto (pc := 31) (tgt := 4) dX11_isUnder_31 (by decide) ?_
  refine pv_iload_3 (pc := 4) dX11_isUnder_4 ?_
  refine pv_bipush (pc := 5) (v := 7) dX11_isUnder_5 (by decide) ?_
  refine pv_icmp_ge (pc := 7) (tgt := 34) dX11_isUnder_7 (by decide) (fun q => absurd q (by decide)) (fun _ => ?_)
  refine pv_iload_2 (pc := 10) dX11_isUnder_10 ?_
  refine pv_callS1 (pc := 11) dX11_isUnder_11 mgX11_isKind ls_X11_129 (by omega) (c_X11_isKind ) rfl rfl (by decide) ?_
  refine pv_topv2 (y := 1) (by decide) ?_
  refine pv_if_eq (pc := 14) (tgt := 34) dX11_isUnder_14 (by decide) (fun q => absurd q (by decide)) (fun _ => ?_)
  refine pv_iload_2 (pc := 17) dX11_isUnder_17 ?_
  refine pv_iload_1 (pc := 18) dX11_isUnder_18 ?_
  refine pv_icmp_eq (pc := 19) (tgt := 34) dX11_isUnder_19 (by decide) (fun q => absurd q (by decide)) (fun _ => ?_)
  refine pv_gsAbove (pc := 22) dX11_isUnder_22 sl_X11_345 ?_
  refine pv_iload_2 (pc := 25) dX11_isUnder_25 ?_
  refine pv_ialoadj (pc := 26) dX11_isUnder_26 hab (j := 0) (by decide) (by unfold vp_in; decide) ?_
  refine pv_topv2 (y := (-1)) (by rw [hav _ (by decide)]; decide) ?_
  refine pv_istore_2 (pc := 27) dX11_isUnder_27 (by decide) rfl ?_
  refine pv_iinc_3 (pc := 28) (v := 3) dX11_isUnder_28 (by decide) (by decide) rfl ?_
  refine pv_goto (pc := 31) (tgt := 4) dX11_isUnder_31 (by decide) ?_
  refine pv_iload_3 (pc := 4) dX11_isUnder_4 ?_
  refine pv_bipush (pc := 5) (v := 7) dX11_isUnder_5 (by decide) ?_
  refine pv_icmp_ge (pc := 7) (tgt := 34) dX11_isUnder_7 (by decide) (fun q => absurd q (by decide)) (fun _ => ?_)
  refine pv_iload_2 (pc := 10) dX11_isUnder_10 ?_
  refine pv_callS1 (pc := 11) dX11_isUnder_11 mgX11_isKind ls_X11_129 (by omega) (c_X11_isKind ) rfl rfl (by decide) ?_
  refine pv_topv2 (y := 0) (by decide) ?_
  refine pv_if_eq (pc := 14) (tgt := 34) dX11_isUnder_14 (by decide) (fun _ => ?_) (fun q => absurd q (by decide))
  refine pv_iload_2 (pc := 34) dX11_isUnder_34 ?_
  refine pv_iload_1 (pc := 35) dX11_isUnder_35 ?_
  refine pv_icmp_ne (pc := 36) (tgt := 43) dX11_isUnder_36 (by decide) (fun _ => ?_) (fun q => absurd q (by decide))
  refine pv_iconst (pc := 43) (v := 0) dX11_isUnder_43 (by decide) ?_
  refine pv_iret (pc := 44) dX11_isUnder_44 rfl rfl ?_
  exact ⟨rfl, rfl, rfl, rfl, rfl⟩

set_option maxRecDepth 100000 in
set_option maxHeartbeats 4000000 in
theorem c_un_5_4 {G : pv_G} {d : Nat} {t : pv_T} {I : pv_I} {L : pv_L} {Rf : pv_R} (hd : 1 ≤ d) : pv_Mt G mX11_isUnder d 0 0 [.int 5, .int 4] t I L Rf (pv_is (some (.int (pv_b (x_un 5 4)))) t I L Rf) := by
  refine pv_mt mgX11_isUnder.2.2.2.2.2 [.int 5, .int 4, .retAddr 0, .retAddr 0] rfl (Nat.le_of_ble_eq_true rfl) ?_
  refine pv_know (fun hq => ?_)
  have hab : t.1 1 = some (.inl (.int, 7)) := (hq 1 (by decide)).1
  have hav : ∀ j, j < 7 → I 1 j = pv_above j := (hq 1 (by decide)).2 _ rfl
  refine pv_iload_0 (pc := 0) dX11_isUnder_0 ?_
  refine pv_istore_2 (pc := 1) dX11_isUnder_1 (by decide) rfl ?_
  refine pv_iconst (pc := 2) (v := 0) dX11_isUnder_2 (by decide) ?_
  refine pv_istore_3 (pc := 3) dX11_isUnder_3 (by decide) rfl ?_
  refine pv_iload_3 (pc := 4) dX11_isUnder_4 ?_
  refine pv_bipush (pc := 5) (v := 7) dX11_isUnder_5 (by decide) ?_
  refine pv_icmp_ge (pc := 7) (tgt := 34) dX11_isUnder_7 (by decide) (fun q => absurd q (by decide)) (fun _ => ?_)
  refine pv_iload_2 (pc := 10) dX11_isUnder_10 ?_
  refine pv_callS1 (pc := 11) dX11_isUnder_11 mgX11_isKind ls_X11_129 (by omega) (c_X11_isKind ) rfl rfl (by decide) ?_
  refine pv_topv2 (y := 1) (by decide) ?_
  refine pv_if_eq (pc := 14) (tgt := 34) dX11_isUnder_14 (by decide) (fun q => absurd q (by decide)) (fun _ => ?_)
  refine pv_iload_2 (pc := 17) dX11_isUnder_17 ?_
  refine pv_iload_1 (pc := 18) dX11_isUnder_18 ?_
  refine pv_icmp_eq (pc := 19) (tgt := 34) dX11_isUnder_19 (by decide) (fun q => absurd q (by decide)) (fun _ => ?_)
  refine pv_gsAbove (pc := 22) dX11_isUnder_22 sl_X11_345 ?_
  refine pv_iload_2 (pc := 25) dX11_isUnder_25 ?_
  refine pv_ialoadj (pc := 26) dX11_isUnder_26 hab (j := 5) (by decide) (by unfold vp_in; decide) ?_
  refine pv_topv2 (y := 4) (by rw [hav _ (by decide)]; decide) ?_
  refine pv_istore_2 (pc := 27) dX11_isUnder_27 (by decide) rfl ?_
  refine pv_iinc_3 (pc := 28) (v := 1) dX11_isUnder_28 (by decide) (by decide) rfl ?_
  refine pv_goto (pc := 31) (tgt := 4) dX11_isUnder_31 (by decide) ?_
  refine pv_iload_3 (pc := 4) dX11_isUnder_4 ?_
  refine pv_bipush (pc := 5) (v := 7) dX11_isUnder_5 (by decide) ?_
  refine pv_icmp_ge (pc := 7) (tgt := 34) dX11_isUnder_7 (by decide) (fun q => absurd q (by decide)) (fun _ => ?_)
  refine pv_iload_2 (pc := 10) dX11_isUnder_10 ?_
  refine pv_callS1 (pc := 11) dX11_isUnder_11 mgX11_isKind ls_X11_129 (by omega) (c_X11_isKind ) rfl rfl (by decide) ?_
  refine pv_topv2 (y := 1) (by decide) ?_
  refine pv_if_eq (pc := 14) (tgt := 34) dX11_isUnder_14 (by decide) (fun q => absurd q (by decide)) (fun _ => ?_)
  refine pv_iload_2 (pc := 17) dX11_isUnder_17 ?_
  refine pv_iload_1 (pc := 18) dX11_isUnder_18 ?_
  refine pv_icmp_eq (pc := 19) (tgt := 34) dX11_isUnder_19 (by decide) (fun _ => ?_) (fun q => absurd q (by decide))
  refine pv_iload_2 (pc := 34) dX11_isUnder_34 ?_
  refine pv_iload_1 (pc := 35) dX11_isUnder_35 ?_
  refine pv_icmp_ne (pc := 36) (tgt := 43) dX11_isUnder_36 (by decide) (fun q => absurd q (by decide)) (fun _ => ?_)
  refine pv_iconst (pc := 39) (v := 1) dX11_isUnder_39 (by decide) ?_
  refine pv_goto (pc := 40) (tgt := 44) dX11_isUnder_40 (by decide) ?_
  refine pv_iret (pc := 44) dX11_isUnder_44 rfl rfl ?_
  exact ⟨rfl, rfl, rfl, rfl, rfl⟩

set_option maxRecDepth 100000 in
set_option maxHeartbeats 4000000 in
theorem c_un_5_5 {G : pv_G} {d : Nat} {t : pv_T} {I : pv_I} {L : pv_L} {Rf : pv_R} (hd : 1 ≤ d) : pv_Mt G mX11_isUnder d 0 0 [.int 5, .int 5] t I L Rf (pv_is (some (.int (pv_b (x_un 5 5)))) t I L Rf) := by
  refine pv_mt mgX11_isUnder.2.2.2.2.2 [.int 5, .int 5, .retAddr 0, .retAddr 0] rfl (Nat.le_of_ble_eq_true rfl) ?_
  refine pv_know (fun hq => ?_)
  have hab : t.1 1 = some (.inl (.int, 7)) := (hq 1 (by decide)).1
  have hav : ∀ j, j < 7 → I 1 j = pv_above j := (hq 1 (by decide)).2 _ rfl
  refine pv_iload_0 (pc := 0) dX11_isUnder_0 ?_
  refine pv_istore_2 (pc := 1) dX11_isUnder_1 (by decide) rfl ?_
  refine pv_iconst (pc := 2) (v := 0) dX11_isUnder_2 (by decide) ?_
  refine pv_istore_3 (pc := 3) dX11_isUnder_3 (by decide) rfl ?_
  refine pv_iload_3 (pc := 4) dX11_isUnder_4 ?_
  refine pv_bipush (pc := 5) (v := 7) dX11_isUnder_5 (by decide) ?_
  refine pv_icmp_ge (pc := 7) (tgt := 34) dX11_isUnder_7 (by decide) (fun q => absurd q (by decide)) (fun _ => ?_)
  refine pv_iload_2 (pc := 10) dX11_isUnder_10 ?_
  refine pv_callS1 (pc := 11) dX11_isUnder_11 mgX11_isKind ls_X11_129 (by omega) (c_X11_isKind ) rfl rfl (by decide) ?_
  refine pv_topv2 (y := 1) (by decide) ?_
  refine pv_if_eq (pc := 14) (tgt := 34) dX11_isUnder_14 (by decide) (fun q => absurd q (by decide)) (fun _ => ?_)
  refine pv_iload_2 (pc := 17) dX11_isUnder_17 ?_
  refine pv_iload_1 (pc := 18) dX11_isUnder_18 ?_
  refine pv_icmp_eq (pc := 19) (tgt := 34) dX11_isUnder_19 (by decide) (fun _ => ?_) (fun q => absurd q (by decide))
  refine pv_iload_2 (pc := 34) dX11_isUnder_34 ?_
  refine pv_iload_1 (pc := 35) dX11_isUnder_35 ?_
  refine pv_icmp_ne (pc := 36) (tgt := 43) dX11_isUnder_36 (by decide) (fun q => absurd q (by decide)) (fun _ => ?_)
  refine pv_iconst (pc := 39) (v := 1) dX11_isUnder_39 (by decide) ?_
  refine pv_goto (pc := 40) (tgt := 44) dX11_isUnder_40 (by decide) ?_
  refine pv_iret (pc := 44) dX11_isUnder_44 rfl rfl ?_
  exact ⟨rfl, rfl, rfl, rfl, rfl⟩

set_option maxRecDepth 100000 in
set_option maxHeartbeats 4000000 in
theorem c_un_5_6 {G : pv_G} {d : Nat} {t : pv_T} {I : pv_I} {L : pv_L} {Rf : pv_R} (hd : 1 ≤ d) : pv_Mt G mX11_isUnder d 0 0 [.int 5, .int 6] t I L Rf (pv_is (some (.int (pv_b (x_un 5 6)))) t I L Rf) := by
  refine pv_mt mgX11_isUnder.2.2.2.2.2 [.int 5, .int 6, .retAddr 0, .retAddr 0] rfl (Nat.le_of_ble_eq_true rfl) ?_
  refine pv_know (fun hq => ?_)
  have hab : t.1 1 = some (.inl (.int, 7)) := (hq 1 (by decide)).1
  have hav : ∀ j, j < 7 → I 1 j = pv_above j := (hq 1 (by decide)).2 _ rfl
  refine pv_iload_0 (pc := 0) dX11_isUnder_0 ?_
  refine pv_istore_2 (pc := 1) dX11_isUnder_1 (by decide) rfl ?_
  refine pv_iconst (pc := 2) (v := 0) dX11_isUnder_2 (by decide) ?_
  refine pv_istore_3 (pc := 3) dX11_isUnder_3 (by decide) rfl ?_
  refine pv_iload_3 (pc := 4) dX11_isUnder_4 ?_
  refine pv_bipush (pc := 5) (v := 7) dX11_isUnder_5 (by decide) ?_
  refine pv_icmp_ge (pc := 7) (tgt := 34) dX11_isUnder_7 (by decide) (fun q => absurd q (by decide)) (fun _ => ?_)
  refine pv_iload_2 (pc := 10) dX11_isUnder_10 ?_
  refine pv_callS1 (pc := 11) dX11_isUnder_11 mgX11_isKind ls_X11_129 (by omega) (c_X11_isKind ) rfl rfl (by decide) ?_
  refine pv_topv2 (y := 1) (by decide) ?_
  refine pv_if_eq (pc := 14) (tgt := 34) dX11_isUnder_14 (by decide) (fun q => absurd q (by decide)) (fun _ => ?_)
  refine pv_iload_2 (pc := 17) dX11_isUnder_17 ?_
  refine pv_iload_1 (pc := 18) dX11_isUnder_18 ?_
  refine pv_icmp_eq (pc := 19) (tgt := 34) dX11_isUnder_19 (by decide) (fun q => absurd q (by decide)) (fun _ => ?_)
  refine pv_gsAbove (pc := 22) dX11_isUnder_22 sl_X11_345 ?_
  refine pv_iload_2 (pc := 25) dX11_isUnder_25 ?_
  refine pv_ialoadj (pc := 26) dX11_isUnder_26 hab (j := 5) (by decide) (by unfold vp_in; decide) ?_
  refine pv_topv2 (y := 4) (by rw [hav _ (by decide)]; decide) ?_
  refine pv_istore_2 (pc := 27) dX11_isUnder_27 (by decide) rfl ?_
  refine pv_iinc_3 (pc := 28) (v := 1) dX11_isUnder_28 (by decide) (by decide) rfl ?_
  refine pv_goto (pc := 31) (tgt := 4) dX11_isUnder_31 (by decide) ?_
  refine pv_iload_3 (pc := 4) dX11_isUnder_4 ?_
  refine pv_bipush (pc := 5) (v := 7) dX11_isUnder_5 (by decide) ?_
  refine pv_icmp_ge (pc := 7) (tgt := 34) dX11_isUnder_7 (by decide) (fun q => absurd q (by decide)) (fun _ => ?_)
  refine pv_iload_2 (pc := 10) dX11_isUnder_10 ?_
  refine pv_callS1 (pc := 11) dX11_isUnder_11 mgX11_isKind ls_X11_129 (by omega) (c_X11_isKind ) rfl rfl (by decide) ?_
  refine pv_topv2 (y := 1) (by decide) ?_
  refine pv_if_eq (pc := 14) (tgt := 34) dX11_isUnder_14 (by decide) (fun q => absurd q (by decide)) (fun _ => ?_)
  refine pv_iload_2 (pc := 17) dX11_isUnder_17 ?_
  refine pv_iload_1 (pc := 18) dX11_isUnder_18 ?_
  refine pv_icmp_eq (pc := 19) (tgt := 34) dX11_isUnder_19 (by decide) (fun q => absurd q (by decide)) (fun _ => ?_)
  refine pv_gsAbove (pc := 22) dX11_isUnder_22 sl_X11_345 ?_
  refine pv_iload_2 (pc := 25) dX11_isUnder_25 ?_
  refine pv_ialoadj (pc := 26) dX11_isUnder_26 hab (j := 4) (by decide) (by unfold vp_in; decide) ?_
  refine pv_topv2 (y := 0) (by rw [hav _ (by decide)]; decide) ?_
  refine pv_istore_2 (pc := 27) dX11_isUnder_27 (by decide) rfl ?_
  refine pv_iinc_3 (pc := 28) (v := 2) dX11_isUnder_28 (by decide) (by decide) rfl ?_
  refine pv_goto (pc := 31) (tgt := 4) dX11_isUnder_31 (by decide) ?_
  refine pv_iload_3 (pc := 4) dX11_isUnder_4 ?_
  refine pv_bipush (pc := 5) (v := 7) dX11_isUnder_5 (by decide) ?_
  refine pv_icmp_ge (pc := 7) (tgt := 34) dX11_isUnder_7 (by decide) (fun q => absurd q (by decide)) (fun _ => ?_)
  refine pv_iload_2 (pc := 10) dX11_isUnder_10 ?_
  refine pv_callS1 (pc := 11) dX11_isUnder_11 mgX11_isKind ls_X11_129 (by omega) (c_X11_isKind ) rfl rfl (by decide) ?_
  refine pv_topv2 (y := 1) (by decide) ?_
  refine pv_if_eq (pc := 14) (tgt := 34) dX11_isUnder_14 (by decide) (fun q => absurd q (by decide)) (fun _ => ?_)
  refine pv_iload_2 (pc := 17) dX11_isUnder_17 ?_
  refine pv_iload_1 (pc := 18) dX11_isUnder_18 ?_
  refine pv_icmp_eq (pc := 19) (tgt := 34) dX11_isUnder_19 (by decide) (fun q => absurd q (by decide)) (fun _ => ?_)
  refine pv_gsAbove (pc := 22) dX11_isUnder_22 sl_X11_345 ?_
  refine pv_iload_2 (pc := 25) dX11_isUnder_25 ?_
  refine pv_ialoadj (pc := 26) dX11_isUnder_26 hab (j := 0) (by decide) (by unfold vp_in; decide) ?_
  refine pv_topv2 (y := (-1)) (by rw [hav _ (by decide)]; decide) ?_
  refine pv_istore_2 (pc := 27) dX11_isUnder_27 (by decide) rfl ?_
  refine pv_iinc_3 (pc := 28) (v := 3) dX11_isUnder_28 (by decide) (by decide) rfl ?_
  refine pv_goto (pc := 31) (tgt := 4) dX11_isUnder_31 (by decide) ?_
  refine pv_iload_3 (pc := 4) dX11_isUnder_4 ?_
  refine pv_bipush (pc := 5) (v := 7) dX11_isUnder_5 (by decide) ?_
  refine pv_icmp_ge (pc := 7) (tgt := 34) dX11_isUnder_7 (by decide) (fun q => absurd q (by decide)) (fun _ => ?_)
  refine pv_iload_2 (pc := 10) dX11_isUnder_10 ?_
  refine pv_callS1 (pc := 11) dX11_isUnder_11 mgX11_isKind ls_X11_129 (by omega) (c_X11_isKind ) rfl rfl (by decide) ?_
  refine pv_topv2 (y := 0) (by decide) ?_
  refine pv_if_eq (pc := 14) (tgt := 34) dX11_isUnder_14 (by decide) (fun _ => ?_) (fun q => absurd q (by decide))
  refine pv_iload_2 (pc := 34) dX11_isUnder_34 ?_
  refine pv_iload_1 (pc := 35) dX11_isUnder_35 ?_
  refine pv_icmp_ne (pc := 36) (tgt := 43) dX11_isUnder_36 (by decide) (fun _ => ?_) (fun q => absurd q (by decide))
  refine pv_iconst (pc := 43) (v := 0) dX11_isUnder_43 (by decide) ?_
  refine pv_iret (pc := 44) dX11_isUnder_44 rfl rfl ?_
  exact ⟨rfl, rfl, rfl, rfl, rfl⟩

set_option maxRecDepth 100000 in
set_option maxHeartbeats 4000000 in
theorem c_un_6_0 {G : pv_G} {d : Nat} {t : pv_T} {I : pv_I} {L : pv_L} {Rf : pv_R} (hd : 1 ≤ d) : pv_Mt G mX11_isUnder d 0 0 [.int 6, .int 0] t I L Rf (pv_is (some (.int (pv_b (x_un 6 0)))) t I L Rf) := by
  refine pv_mt mgX11_isUnder.2.2.2.2.2 [.int 6, .int 0, .retAddr 0, .retAddr 0] rfl (Nat.le_of_ble_eq_true rfl) ?_
  refine pv_know (fun hq => ?_)
  have hab : t.1 1 = some (.inl (.int, 7)) := (hq 1 (by decide)).1
  have hav : ∀ j, j < 7 → I 1 j = pv_above j := (hq 1 (by decide)).2 _ rfl
  refine pv_iload_0 (pc := 0) dX11_isUnder_0 ?_
  refine pv_istore_2 (pc := 1) dX11_isUnder_1 (by decide) rfl ?_
  refine pv_iconst (pc := 2) (v := 0) dX11_isUnder_2 (by decide) ?_
  refine pv_istore_3 (pc := 3) dX11_isUnder_3 (by decide) rfl ?_
  refine pv_iload_3 (pc := 4) dX11_isUnder_4 ?_
  refine pv_bipush (pc := 5) (v := 7) dX11_isUnder_5 (by decide) ?_
  refine pv_icmp_ge (pc := 7) (tgt := 34) dX11_isUnder_7 (by decide) (fun q => absurd q (by decide)) (fun _ => ?_)
  refine pv_iload_2 (pc := 10) dX11_isUnder_10 ?_
  refine pv_callS1 (pc := 11) dX11_isUnder_11 mgX11_isKind ls_X11_129 (by omega) (c_X11_isKind ) rfl rfl (by decide) ?_
  refine pv_topv2 (y := 1) (by decide) ?_
  refine pv_if_eq (pc := 14) (tgt := 34) dX11_isUnder_14 (by decide) (fun q => absurd q (by decide)) (fun _ => ?_)
  refine pv_iload_2 (pc := 17) dX11_isUnder_17 ?_
  refine pv_iload_1 (pc := 18) dX11_isUnder_18 ?_
  refine pv_icmp_eq (pc := 19) (tgt := 34) dX11_isUnder_19 (by decide) (fun q => absurd q (by decide)) (fun _ => ?_)
  refine pv_gsAbove (pc := 22) dX11_isUnder_22 sl_X11_345 ?_
  refine pv_iload_2 (pc := 25) dX11_isUnder_25 ?_
  refine pv_ialoadj (pc := 26) dX11_isUnder_26 hab (j := 6) (by decide) (by unfold vp_in; decide) ?_
  refine pv_topv2 (y := 4) (by rw [hav _ (by decide)]; decide) ?_
  refine pv_istore_2 (pc := 27) dX11_isUnder_27 (by decide) rfl ?_
  refine pv_iinc_3 (pc := 28) (v := 1) dX11_isUnder_28 (by decide) (by decide) rfl ?_
  refine pv_goto (pc := 31) (tgt := 4) dX11_isUnder_31 (by decide) ?_
  refine pv_iload_3 (pc := 4) dX11_isUnder_4 ?_
  refine pv_bipush (pc := 5) (v := 7) dX11_isUnder_5 (by decide) ?_
  refine pv_icmp_ge (pc := 7) (tgt := 34) dX11_isUnder_7 (by decide) (fun q => absurd q (by decide)) (fun _ => ?_)
  refine pv_iload_2 (pc := 10) dX11_isUnder_10 ?_
  refine pv_callS1 (pc := 11) dX11_isUnder_11 mgX11_isKind ls_X11_129 (by omega) (c_X11_isKind ) rfl rfl (by decide) ?_
  refine pv_topv2 (y := 1) (by decide) ?_
  refine pv_if_eq (pc := 14) (tgt := 34) dX11_isUnder_14 (by decide) (fun q => absurd q (by decide)) (fun _ => ?_)
  refine pv_iload_2 (pc := 17) dX11_isUnder_17 ?_
  refine pv_iload_1 (pc := 18) dX11_isUnder_18 ?_
  refine pv_icmp_eq (pc := 19) (tgt := 34) dX11_isUnder_19 (by decide) (fun q => absurd q (by decide)) (fun _ => ?_)
  refine pv_gsAbove (pc := 22) dX11_isUnder_22 sl_X11_345 ?_
  refine pv_iload_2 (pc := 25) dX11_isUnder_25 ?_
  refine pv_ialoadj (pc := 26) dX11_isUnder_26 hab (j := 4) (by decide) (by unfold vp_in; decide) ?_
  refine pv_topv2 (y := 0) (by rw [hav _ (by decide)]; decide) ?_
  refine pv_istore_2 (pc := 27) dX11_isUnder_27 (by decide) rfl ?_
  refine pv_iinc_3 (pc := 28) (v := 2) dX11_isUnder_28 (by decide) (by decide) rfl ?_
  refine pv_goto (pc := 31) (tgt := 4) dX11_isUnder_31 (by decide) ?_
  refine pv_iload_3 (pc := 4) dX11_isUnder_4 ?_
  refine pv_bipush (pc := 5) (v := 7) dX11_isUnder_5 (by decide) ?_
  refine pv_icmp_ge (pc := 7) (tgt := 34) dX11_isUnder_7 (by decide) (fun q => absurd q (by decide)) (fun _ => ?_)
  refine pv_iload_2 (pc := 10) dX11_isUnder_10 ?_
  refine pv_callS1 (pc := 11) dX11_isUnder_11 mgX11_isKind ls_X11_129 (by omega) (c_X11_isKind ) rfl rfl (by decide) ?_
  refine pv_topv2 (y := 1) (by decide) ?_
  refine pv_if_eq (pc := 14) (tgt := 34) dX11_isUnder_14 (by decide) (fun q => absurd q (by decide)) (fun _ => ?_)
  refine pv_iload_2 (pc := 17) dX11_isUnder_17 ?_
  refine pv_iload_1 (pc := 18) dX11_isUnder_18 ?_
  refine pv_icmp_eq (pc := 19) (tgt := 34) dX11_isUnder_19 (by decide) (fun _ => ?_) (fun q => absurd q (by decide))
  refine pv_iload_2 (pc := 34) dX11_isUnder_34 ?_
  refine pv_iload_1 (pc := 35) dX11_isUnder_35 ?_
  refine pv_icmp_ne (pc := 36) (tgt := 43) dX11_isUnder_36 (by decide) (fun q => absurd q (by decide)) (fun _ => ?_)
  refine pv_iconst (pc := 39) (v := 1) dX11_isUnder_39 (by decide) ?_
  refine pv_goto (pc := 40) (tgt := 44) dX11_isUnder_40 (by decide) ?_
  refine pv_iret (pc := 44) dX11_isUnder_44 rfl rfl ?_
  exact ⟨rfl, rfl, rfl, rfl, rfl⟩

set_option maxRecDepth 100000 in
set_option maxHeartbeats 4000000 in
theorem c_un_6_1 {G : pv_G} {d : Nat} {t : pv_T} {I : pv_I} {L : pv_L} {Rf : pv_R} (hd : 1 ≤ d) : pv_Mt G mX11_isUnder d 0 0 [.int 6, .int 1] t I L Rf (pv_is (some (.int (pv_b (x_un 6 1)))) t I L Rf) := by
  refine pv_mt mgX11_isUnder.2.2.2.2.2 [.int 6, .int 1, .retAddr 0, .retAddr 0] rfl (Nat.le_of_ble_eq_true rfl) ?_
  refine pv_know (fun hq => ?_)
  have hab : t.1 1 = some (.inl (.int, 7)) := (hq 1 (by decide)).1
  have hav : ∀ j, j < 7 → I 1 j = pv_above j := (hq 1 (by decide)).2 _ rfl
  refine pv_iload_0 (pc := 0) dX11_isUnder_0 ?_
  refine pv_istore_2 (pc := 1) dX11_isUnder_1 (by decide) rfl ?_
  refine pv_iconst (pc := 2) (v := 0) dX11_isUnder_2 (by decide) ?_
  refine pv_istore_3 (pc := 3) dX11_isUnder_3 (by decide) rfl ?_
  refine pv_iload_3 (pc := 4) dX11_isUnder_4 ?_
  refine pv_bipush (pc := 5) (v := 7) dX11_isUnder_5 (by decide) ?_
  refine pv_icmp_ge (pc := 7) (tgt := 34) dX11_isUnder_7 (by decide) (fun q => absurd q (by decide)) (fun _ => ?_)
  refine pv_iload_2 (pc := 10) dX11_isUnder_10 ?_
  refine pv_callS1 (pc := 11) dX11_isUnder_11 mgX11_isKind ls_X11_129 (by omega) (c_X11_isKind ) rfl rfl (by decide) ?_
  refine pv_topv2 (y := 1) (by decide) ?_
  refine pv_if_eq (pc := 14) (tgt := 34) dX11_isUnder_14 (by decide) (fun q => absurd q (by decide)) (fun _ => ?_)
  refine pv_iload_2 (pc := 17) dX11_isUnder_17 ?_
  refine pv_iload_1 (pc := 18) dX11_isUnder_18 ?_
  refine pv_icmp_eq (pc := 19) (tgt := 34) dX11_isUnder_19 (by decide) (fun q => absurd q (by decide)) (fun _ => ?_)
  refine pv_gsAbove (pc := 22) dX11_isUnder_22 sl_X11_345 ?_
  refine pv_iload_2 (pc := 25) dX11_isUnder_25 ?_
  refine pv_ialoadj (pc := 26) dX11_isUnder_26 hab (j := 6) (by decide) (by unfold vp_in; decide) ?_
  refine pv_topv2 (y := 4) (by rw [hav _ (by decide)]; decide) ?_
  refine pv_istore_2 (pc := 27) dX11_isUnder_27 (by decide) rfl ?_
  refine pv_iinc_3 (pc := 28) (v := 1) dX11_isUnder_28 (by decide) (by decide) rfl ?_
  refine pv_goto (pc := 31) (tgt := 4) dX11_isUnder_31 (by decide) ?_
  refine pv_iload_3 (pc := 4) dX11_isUnder_4 ?_
  refine pv_bipush (pc := 5) (v := 7) dX11_isUnder_5 (by decide) ?_
  refine pv_icmp_ge (pc := 7) (tgt := 34) dX11_isUnder_7 (by decide) (fun q => absurd q (by decide)) (fun _ => ?_)
  refine pv_iload_2 (pc := 10) dX11_isUnder_10 ?_
  refine pv_callS1 (pc := 11) dX11_isUnder_11 mgX11_isKind ls_X11_129 (by omega) (c_X11_isKind ) rfl rfl (by decide) ?_
  refine pv_topv2 (y := 1) (by decide) ?_
  refine pv_if_eq (pc := 14) (tgt := 34) dX11_isUnder_14 (by decide) (fun q => absurd q (by decide)) (fun _ => ?_)
  refine pv_iload_2 (pc := 17) dX11_isUnder_17 ?_
  refine pv_iload_1 (pc := 18) dX11_isUnder_18 ?_
  refine pv_icmp_eq (pc := 19) (tgt := 34) dX11_isUnder_19 (by decide) (fun q => absurd q (by decide)) (fun _ => ?_)
  refine pv_gsAbove (pc := 22) dX11_isUnder_22 sl_X11_345 ?_
  refine pv_iload_2 (pc := 25) dX11_isUnder_25 ?_
  refine pv_ialoadj (pc := 26) dX11_isUnder_26 hab (j := 4) (by decide) (by unfold vp_in; decide) ?_
  refine pv_topv2 (y := 0) (by rw [hav _ (by decide)]; decide) ?_
  refine pv_istore_2 (pc := 27) dX11_isUnder_27 (by decide) rfl ?_
  refine pv_iinc_3 (pc := 28) (v := 2) dX11_isUnder_28 (by decide) (by decide) rfl ?_
  refine pv_goto (pc := 31) (tgt := 4) dX11_isUnder_31 (by decide) ?_
  refine pv_iload_3 (pc := 4) dX11_isUnder_4 ?_
  refine pv_bipush (pc := 5) (v := 7) dX11_isUnder_5 (by decide) ?_
  refine pv_icmp_ge (pc := 7) (tgt := 34) dX11_isUnder_7 (by decide) (fun q => absurd q (by decide)) (fun _ => ?_)
  refine pv_iload_2 (pc := 10) dX11_isUnder_10 ?_
  refine pv_callS1 (pc := 11) dX11_isUnder_11 mgX11_isKind ls_X11_129 (by omega) (c_X11_isKind ) rfl rfl (by decide) ?_
  refine pv_topv2 (y := 1) (by decide) ?_
  refine pv_if_eq (pc := 14) (tgt := 34) dX11_isUnder_14 (by decide) (fun q => absurd q (by decide)) (fun _ => ?_)
  refine pv_iload_2 (pc := 17) dX11_isUnder_17 ?_
  refine pv_iload_1 (pc := 18) dX11_isUnder_18 ?_
  refine pv_icmp_eq (pc := 19) (tgt := 34) dX11_isUnder_19 (by decide) (fun q => absurd q (by decide)) (fun _ => ?_)
  refine pv_gsAbove (pc := 22) dX11_isUnder_22 sl_X11_345 ?_
  refine pv_iload_2 (pc := 25) dX11_isUnder_25 ?_
  refine pv_ialoadj (pc := 26) dX11_isUnder_26 hab (j := 0) (by decide) (by unfold vp_in; decide) ?_
  refine pv_topv2 (y := (-1)) (by rw [hav _ (by decide)]; decide) ?_
  refine pv_istore_2 (pc := 27) dX11_isUnder_27 (by decide) rfl ?_
  refine pv_iinc_3 (pc := 28) (v := 3) dX11_isUnder_28 (by decide) (by decide) rfl ?_
  refine pv_goto (pc := 31) (tgt := 4) dX11_isUnder_31 (by decide) ?_
  refine pv_iload_3 (pc := 4) dX11_isUnder_4 ?_
  refine pv_bipush (pc := 5) (v := 7) dX11_isUnder_5 (by decide) ?_
  refine pv_icmp_ge (pc := 7) (tgt := 34) dX11_isUnder_7 (by decide) (fun q => absurd q (by decide)) (fun _ => ?_)
  refine pv_iload_2 (pc := 10) dX11_isUnder_10 ?_
  refine pv_callS1 (pc := 11) dX11_isUnder_11 mgX11_isKind ls_X11_129 (by omega) (c_X11_isKind ) rfl rfl (by decide) ?_
  refine pv_topv2 (y := 0) (by decide) ?_
  refine pv_if_eq (pc := 14) (tgt := 34) dX11_isUnder_14 (by decide) (fun _ => ?_) (fun q => absurd q (by decide))
  refine pv_iload_2 (pc := 34) dX11_isUnder_34 ?_
  refine pv_iload_1 (pc := 35) dX11_isUnder_35 ?_
  refine pv_icmp_ne (pc := 36) (tgt := 43) dX11_isUnder_36 (by decide) (fun _ => ?_) (fun q => absurd q (by decide))
  refine pv_iconst (pc := 43) (v := 0) dX11_isUnder_43 (by decide) ?_
  refine pv_iret (pc := 44) dX11_isUnder_44 rfl rfl ?_
  exact ⟨rfl, rfl, rfl, rfl, rfl⟩

set_option maxRecDepth 100000 in
set_option maxHeartbeats 4000000 in
theorem c_un_6_2 {G : pv_G} {d : Nat} {t : pv_T} {I : pv_I} {L : pv_L} {Rf : pv_R} (hd : 1 ≤ d) : pv_Mt G mX11_isUnder d 0 0 [.int 6, .int 2] t I L Rf (pv_is (some (.int (pv_b (x_un 6 2)))) t I L Rf) := by
  refine pv_mt mgX11_isUnder.2.2.2.2.2 [.int 6, .int 2, .retAddr 0, .retAddr 0] rfl (Nat.le_of_ble_eq_true rfl) ?_
  refine pv_know (fun hq => ?_)
  have hab : t.1 1 = some (.inl (.int, 7)) := (hq 1 (by decide)).1
  have hav : ∀ j, j < 7 → I 1 j = pv_above j := (hq 1 (by decide)).2 _ rfl
  refine pv_iload_0 (pc := 0) dX11_isUnder_0 ?_
  refine pv_istore_2 (pc := 1) dX11_isUnder_1 (by decide) rfl ?_
  refine pv_iconst (pc := 2) (v := 0) dX11_isUnder_2 (by decide) ?_
  refine pv_istore_3 (pc := 3) dX11_isUnder_3 (by decide) rfl ?_
  refine pv_iload_3 (pc := 4) dX11_isUnder_4 ?_
  refine pv_bipush (pc := 5) (v := 7) dX11_isUnder_5 (by decide) ?_
  refine pv_icmp_ge (pc := 7) (tgt := 34) dX11_isUnder_7 (by decide) (fun q => absurd q (by decide)) (fun _ => ?_)
  refine pv_iload_2 (pc := 10) dX11_isUnder_10 ?_
  refine pv_callS1 (pc := 11) dX11_isUnder_11 mgX11_isKind ls_X11_129 (by omega) (c_X11_isKind ) rfl rfl (by decide) ?_
  refine pv_topv2 (y := 1) (by decide) ?_
  refine pv_if_eq (pc := 14) (tgt := 34) dX11_isUnder_14 (by decide) (fun q => absurd q (by decide)) (fun _ => ?_)
  refine pv_iload_2 (pc := 17) dX11_isUnder_17 ?_
  refine pv_iload_1 (pc := 18) dX11_isUnder_18 ?_
  refine pv_icmp_eq (pc := 19) (tgt := 34) dX11_isUnder_19 (by decide) (fun q => absurd q (by decide)) (fun _ => ?_)
  refine pv_gsAbove (pc := 22) dX11_isUnder_22 sl_X11_345 ?_
  refine pv_iload_2 (pc := 25) dX11_isUnder_25 ?_
  refine pv_ialoadj (pc := 26) dX11_isUnder_26 hab (j := 6) (by decide) (by unfold vp_in; decide) ?_
  refine pv_topv2 (y := 4) (by rw [hav _ (by decide)]; decide) ?_
  refine pv_istore_2 (pc := 27) dX11_isUnder_27 (by decide) rfl ?_
  refine pv_iinc_3 (pc := 28) (v := 1) dX11_isUnder_28 (by decide) (by decide) rfl ?_
  refine pv_goto (pc := 31) (tgt := 4) dX11_isUnder_31 (by decide) ?_
  refine pv_iload_3 (pc := 4) dX11_isUnder_4 ?_
  refine pv_bipush (pc := 5) (v := 7) dX11_isUnder_5 (by decide) ?_
  refine pv_icmp_ge (pc := 7) (tgt := 34) dX11_isUnder_7 (by decide) (fun q => absurd q (by decide)) (fun _ => ?_)
  refine pv_iload_2 (pc := 10) dX11_isUnder_10 ?_
  refine pv_callS1 (pc := 11) dX11_isUnder_11 mgX11_isKind ls_X11_129 (by omega) (c_X11_isKind ) rfl rfl (by decide) ?_
  refine pv_topv2 (y := 1) (by decide) ?_
  refine pv_if_eq (pc := 14) (tgt := 34) dX11_isUnder_14 (by decide) (fun q => absurd q (by decide)) (fun _ => ?_)
  refine pv_iload_2 (pc := 17) dX11_isUnder_17 ?_
  refine pv_iload_1 (pc := 18) dX11_isUnder_18 ?_
  refine pv_icmp_eq (pc := 19) (tgt := 34) dX11_isUnder_19 (by decide) (fun q => absurd q (by decide)) (fun _ => ?_)
  refine pv_gsAbove (pc := 22) dX11_isUnder_22 sl_X11_345 ?_
  refine pv_iload_2 (pc := 25) dX11_isUnder_25 ?_
  refine pv_ialoadj (pc := 26) dX11_isUnder_26 hab (j := 4) (by decide) (by unfold vp_in; decide) ?_
  refine pv_topv2 (y := 0) (by rw [hav _ (by decide)]; decide) ?_
  refine pv_istore_2 (pc := 27) dX11_isUnder_27 (by decide) rfl ?_
  refine pv_iinc_3 (pc := 28) (v := 2) dX11_isUnder_28 (by decide) (by decide) rfl ?_
  refine pv_goto (pc := 31) (tgt := 4) dX11_isUnder_31 (by decide) ?_
  refine pv_iload_3 (pc := 4) dX11_isUnder_4 ?_
  refine pv_bipush (pc := 5) (v := 7) dX11_isUnder_5 (by decide) ?_
  refine pv_icmp_ge (pc := 7) (tgt := 34) dX11_isUnder_7 (by decide) (fun q => absurd q (by decide)) (fun _ => ?_)
  refine pv_iload_2 (pc := 10) dX11_isUnder_10 ?_
  refine pv_callS1 (pc := 11) dX11_isUnder_11 mgX11_isKind ls_X11_129 (by omega) (c_X11_isKind ) rfl rfl (by decide) ?_
  refine pv_topv2 (y := 1) (by decide) ?_
  refine pv_if_eq (pc := 14) (tgt := 34) dX11_isUnder_14 (by decide) (fun q => absurd q (by decide)) (fun _ => ?_)
  refine pv_iload_2 (pc := 17) dX11_isUnder_17 ?_
  refine pv_iload_1 (pc := 18) dX11_isUnder_18 ?_
  refine pv_icmp_eq (pc := 19) (tgt := 34) dX11_isUnder_19 (by decide) (fun q => absurd q (by decide)) (fun _ => ?_)
  refine pv_gsAbove (pc := 22) dX11_isUnder_22 sl_X11_345 ?_
  refine pv_iload_2 (pc := 25) dX11_isUnder_25 ?_
  refine pv_ialoadj (pc := 26) dX11_isUnder_26 hab (j := 0) (by decide) (by unfold vp_in; decide) ?_
  refine pv_topv2 (y := (-1)) (by rw [hav _ (by decide)]; decide) ?_
  refine pv_istore_2 (pc := 27) dX11_isUnder_27 (by decide) rfl ?_
  refine pv_iinc_3 (pc := 28) (v := 3) dX11_isUnder_28 (by decide) (by decide) rfl ?_
  refine pv_goto (pc := 31) (tgt := 4) dX11_isUnder_31 (by decide) ?_
  refine pv_iload_3 (pc := 4) dX11_isUnder_4 ?_
  refine pv_bipush (pc := 5) (v := 7) dX11_isUnder_5 (by decide) ?_
  refine pv_icmp_ge (pc := 7) (tgt := 34) dX11_isUnder_7 (by decide) (fun q => absurd q (by decide)) (fun _ => ?_)
  refine pv_iload_2 (pc := 10) dX11_isUnder_10 ?_
  refine pv_callS1 (pc := 11) dX11_isUnder_11 mgX11_isKind ls_X11_129 (by omega) (c_X11_isKind ) rfl rfl (by decide) ?_
  refine pv_topv2 (y := 0) (by decide) ?_
  refine pv_if_eq (pc := 14) (tgt := 34) dX11_isUnder_14 (by decide) (fun _ => ?_) (fun q => absurd q (by decide))
  refine pv_iload_2 (pc := 34) dX11_isUnder_34 ?_
  refine pv_iload_1 (pc := 35) dX11_isUnder_35 ?_
  refine pv_icmp_ne (pc := 36) (tgt := 43) dX11_isUnder_36 (by decide) (fun _ => ?_) (fun q => absurd q (by decide))
  refine pv_iconst (pc := 43) (v := 0) dX11_isUnder_43 (by decide) ?_
  refine pv_iret (pc := 44) dX11_isUnder_44 rfl rfl ?_
  exact ⟨rfl, rfl, rfl, rfl, rfl⟩

set_option maxRecDepth 100000 in
set_option maxHeartbeats 4000000 in
theorem c_un_6_3 {G : pv_G} {d : Nat} {t : pv_T} {I : pv_I} {L : pv_L} {Rf : pv_R} (hd : 1 ≤ d) : pv_Mt G mX11_isUnder d 0 0 [.int 6, .int 3] t I L Rf (pv_is (some (.int (pv_b (x_un 6 3)))) t I L Rf) := by
  refine pv_mt mgX11_isUnder.2.2.2.2.2 [.int 6, .int 3, .retAddr 0, .retAddr 0] rfl (Nat.le_of_ble_eq_true rfl) ?_
  refine pv_know (fun hq => ?_)
  have hab : t.1 1 = some (.inl (.int, 7)) := (hq 1 (by decide)).1
  have hav : ∀ j, j < 7 → I 1 j = pv_above j := (hq 1 (by decide)).2 _ rfl
  refine pv_iload_0 (pc := 0) dX11_isUnder_0 ?_
  refine pv_istore_2 (pc := 1) dX11_isUnder_1 (by decide) rfl ?_
  refine pv_iconst (pc := 2) (v := 0) dX11_isUnder_2 (by decide) ?_
  refine pv_istore_3 (pc := 3) dX11_isUnder_3 (by decide) rfl ?_
  refine pv_iload_3 (pc := 4) dX11_isUnder_4 ?_
  refine pv_bipush (pc := 5) (v := 7) dX11_isUnder_5 (by decide) ?_
  refine pv_icmp_ge (pc := 7) (tgt := 34) dX11_isUnder_7 (by decide) (fun q => absurd q (by decide)) (fun _ => ?_)
  refine pv_iload_2 (pc := 10) dX11_isUnder_10 ?_
  refine pv_callS1 (pc := 11) dX11_isUnder_11 mgX11_isKind ls_X11_129 (by omega) (c_X11_isKind ) rfl rfl (by decide) ?_
  refine pv_topv2 (y := 1) (by decide) ?_
  refine pv_if_eq (pc := 14) (tgt := 34) dX11_isUnder_14 (by decide) (fun q => absurd q (by decide)) (fun _ => ?_)
  refine pv_iload_2 (pc := 17) dX11_isUnder_17 ?_
  refine pv_iload_1 (pc := 18) dX11_isUnder_18 ?_
  refine pv_icmp_eq (pc := 19) (tgt := 34) dX11_isUnder_19 (by decide) (fun q => absurd q (by decide)) (fun _ => ?_)
  refine pv_gsAbove (pc := 22) dX11_isUnder_22 sl_X11_345 ?_
  refine pv_iload_2 (pc := 25) dX11_isUnder_25 ?_
  refine pv_ialoadj (pc := 26) dX11_isUnder_26 hab (j := 6) (by decide) (by unfold vp_in; decide) ?_
  refine pv_topv2 (y := 4) (by rw [hav _ (by decide)]; decide) ?_
  refine pv_istore_2 (pc := 27) dX11_isUnder_27 (by decide) rfl ?_
  refine pv_iinc_3 (pc := 28) (v := 1) dX11_isUnder_28 (by decide) (by decide) rfl ?_
  refine pv_goto (pc := 31) (tgt := 4) dX11_isUnder_31 (by decide) ?_
  refine pv_iload_3 (pc := 4) dX11_isUnder_4 ?_
  refine pv_bipush (pc := 5) (v := 7) dX11_isUnder_5 (by decide) ?_
  refine pv_icmp_ge (pc := 7) (tgt := 34) dX11_isUnder_7 (by decide) (fun q => absurd q (by decide)) (fun _ => ?_)
  refine pv_iload_2 (pc := 10) dX11_isUnder_10 ?_
  refine pv_callS1 (pc := 11) dX11_isUnder_11 mgX11_isKind ls_X11_129 (by omega) (c_X11_isKind ) rfl rfl (by decide) ?_
  refine pv_topv2 (y := 1) (by decide) ?_
  refine pv_if_eq (pc := 14) (tgt := 34) dX11_isUnder_14 (by decide) (fun q => absurd q (by decide)) (fun _ => ?_)
  refine pv_iload_2 (pc := 17) dX11_isUnder_17 ?_
  refine pv_iload_1 (pc := 18) dX11_isUnder_18 ?_
  refine pv_icmp_eq (pc := 19) (tgt := 34) dX11_isUnder_19 (by decide) (fun q => absurd q (by decide)) (fun _ => ?_)
  refine pv_gsAbove (pc := 22) dX11_isUnder_22 sl_X11_345 ?_
  refine pv_iload_2 (pc := 25) dX11_isUnder_25 ?_
  refine pv_ialoadj (pc := 26) dX11_isUnder_26 hab (j := 4) (by decide) (by unfold vp_in; decide) ?_
  refine pv_topv2 (y := 0) (by rw [hav _ (by decide)]; decide) ?_
  refine pv_istore_2 (pc := 27) dX11_isUnder_27 (by decide) rfl ?_
  refine pv_iinc_3 (pc := 28) (v := 2) dX11_isUnder_28 (by decide) (by decide) rfl ?_
  refine pv_goto (pc := 31) (tgt := 4) dX11_isUnder_31 (by decide) ?_
  refine pv_iload_3 (pc := 4) dX11_isUnder_4 ?_
  refine pv_bipush (pc := 5) (v := 7) dX11_isUnder_5 (by decide) ?_
  refine pv_icmp_ge (pc := 7) (tgt := 34) dX11_isUnder_7 (by decide) (fun q => absurd q (by decide)) (fun _ => ?_)
  refine pv_iload_2 (pc := 10) dX11_isUnder_10 ?_
  refine pv_callS1 (pc := 11) dX11_isUnder_11 mgX11_isKind ls_X11_129 (by omega) (c_X11_isKind ) rfl rfl (by decide) ?_
  refine pv_topv2 (y := 1) (by decide) ?_
  refine pv_if_eq (pc := 14) (tgt := 34) dX11_isUnder_14 (by decide) (fun q => absurd q (by decide)) (fun _ => ?_)
  refine pv_iload_2 (pc := 17) dX11_isUnder_17 ?_
  refine pv_iload_1 (pc := 18) dX11_isUnder_18 ?_
  refine pv_icmp_eq (pc := 19) (tgt := 34) dX11_isUnder_19 (by decide) (fun q => absurd q (by decide)) (fun _ => ?_)
  refine pv_gsAbove (pc := 22) dX11_isUnder_22 sl_X11_345 ?_
  refine pv_iload_2 (pc := 25) dX11_isUnder_25 ?_
  refine pv_ialoadj (pc := 26) dX11_isUnder_26 hab (j := 0) (by decide) (by unfold vp_in; decide) ?_
  refine pv_topv2 (y := (-1)) (by rw [hav _ (by decide)]; decide) ?_
  refine pv_istore_2 (pc := 27) dX11_isUnder_27 (by decide) rfl ?_
  refine pv_iinc_3 (pc := 28) (v := 3) dX11_isUnder_28 (by decide) (by decide) rfl ?_
  refine pv_goto (pc := 31) (tgt := 4) dX11_isUnder_31 (by decide) ?_
  refine pv_iload_3 (pc := 4) dX11_isUnder_4 ?_
  refine pv_bipush (pc := 5) (v := 7) dX11_isUnder_5 (by decide) ?_
  refine pv_icmp_ge (pc := 7) (tgt := 34) dX11_isUnder_7 (by decide) (fun q => absurd q (by decide)) (fun _ => ?_)
  refine pv_iload_2 (pc := 10) dX11_isUnder_10 ?_
  refine pv_callS1 (pc := 11) dX11_isUnder_11 mgX11_isKind ls_X11_129 (by omega) (c_X11_isKind ) rfl rfl (by decide) ?_
  refine pv_topv2 (y := 0) (by decide) ?_
  refine pv_if_eq (pc := 14) (tgt := 34) dX11_isUnder_14 (by decide) (fun _ => ?_) (fun q => absurd q (by decide))
  refine pv_iload_2 (pc := 34) dX11_isUnder_34 ?_
  refine pv_iload_1 (pc := 35) dX11_isUnder_35 ?_
  refine pv_icmp_ne (pc := 36) (tgt := 43) dX11_isUnder_36 (by decide) (fun _ => ?_) (fun q => absurd q (by decide))
  refine pv_iconst (pc := 43) (v := 0) dX11_isUnder_43 (by decide) ?_
  refine pv_iret (pc := 44) dX11_isUnder_44 rfl rfl ?_
  exact ⟨rfl, rfl, rfl, rfl, rfl⟩

set_option maxRecDepth 100000 in
set_option maxHeartbeats 4000000 in
theorem c_un_6_4 {G : pv_G} {d : Nat} {t : pv_T} {I : pv_I} {L : pv_L} {Rf : pv_R} (hd : 1 ≤ d) : pv_Mt G mX11_isUnder d 0 0 [.int 6, .int 4] t I L Rf (pv_is (some (.int (pv_b (x_un 6 4)))) t I L Rf) := by
  refine pv_mt mgX11_isUnder.2.2.2.2.2 [.int 6, .int 4, .retAddr 0, .retAddr 0] rfl (Nat.le_of_ble_eq_true rfl) ?_
  refine pv_know (fun hq => ?_)
  have hab : t.1 1 = some (.inl (.int, 7)) := (hq 1 (by decide)).1
  have hav : ∀ j, j < 7 → I 1 j = pv_above j := (hq 1 (by decide)).2 _ rfl
  refine pv_iload_0 (pc := 0) dX11_isUnder_0 ?_
  refine pv_istore_2 (pc := 1) dX11_isUnder_1 (by decide) rfl ?_
  refine pv_iconst (pc := 2) (v := 0) dX11_isUnder_2 (by decide) ?_
  refine pv_istore_3 (pc := 3) dX11_isUnder_3 (by decide) rfl ?_
  refine pv_iload_3 (pc := 4) dX11_isUnder_4 ?_
  refine pv_bipush (pc := 5) (v := 7) dX11_isUnder_5 (by decide) ?_
  refine pv_icmp_ge (pc := 7) (tgt := 34) dX11_isUnder_7 (by decide) (fun q => absurd q (by decide)) (fun _ => ?_)
  refine pv_iload_2 (pc := 10) dX11_isUnder_10 ?_
  refine pv_callS1 (pc := 11) dX11_isUnder_11 mgX11_isKind ls_X11_129 (by omega) (c_X11_isKind ) rfl rfl (by decide) ?_
  refine pv_topv2 (y := 1) (by decide) ?_
  refine pv_if_eq (pc := 14) (tgt := 34) dX11_isUnder_14 (by decide) (fun q => absurd q (by decide)) (fun _ => ?_)
  refine pv_iload_2 (pc := 17) dX11_isUnder_17 ?_
  refine pv_iload_1 (pc := 18) dX11_isUnder_18 ?_
  refine pv_icmp_eq (pc := 19) (tgt := 34) dX11_isUnder_19 (by decide) (fun q => absurd q (by decide)) (fun _ => ?_)
  refine pv_gsAbove (pc := 22) dX11_isUnder_22 sl_X11_345 ?_
  refine pv_iload_2 (pc := 25) dX11_isUnder_25 ?_
  refine pv_ialoadj (pc := 26) dX11_isUnder_26 hab (j := 6) (by decide) (by unfold vp_in; decide) ?_
  refine pv_topv2 (y := 4) (by rw [hav _ (by decide)]; decide) ?_
  refine pv_istore_2 (pc := 27) dX11_isUnder_27 (by decide) rfl ?_
  refine pv_iinc_3 (pc := 28) (v := 1) dX11_isUnder_28 (by decide) (by decide) rfl ?_
  refine pv_goto (pc := 31) (tgt := 4) dX11_isUnder_31 (by decide) ?_
  refine pv_iload_3 (pc := 4) dX11_isUnder_4 ?_
  refine pv_bipush (pc := 5) (v := 7) dX11_isUnder_5 (by decide) ?_
  refine pv_icmp_ge (pc := 7) (tgt := 34) dX11_isUnder_7 (by decide) (fun q => absurd q (by decide)) (fun _ => ?_)
  refine pv_iload_2 (pc := 10) dX11_isUnder_10 ?_
  refine pv_callS1 (pc := 11) dX11_isUnder_11 mgX11_isKind ls_X11_129 (by omega) (c_X11_isKind ) rfl rfl (by decide) ?_
  refine pv_topv2 (y := 1) (by decide) ?_
  refine pv_if_eq (pc := 14) (tgt := 34) dX11_isUnder_14 (by decide) (fun q => absurd q (by decide)) (fun _ => ?_)
  refine pv_iload_2 (pc := 17) dX11_isUnder_17 ?_
  refine pv_iload_1 (pc := 18) dX11_isUnder_18 ?_
  refine pv_icmp_eq (pc := 19) (tgt := 34) dX11_isUnder_19 (by decide) (fun _ => ?_) (fun q => absurd q (by decide))
  refine pv_iload_2 (pc := 34) dX11_isUnder_34 ?_
  refine pv_iload_1 (pc := 35) dX11_isUnder_35 ?_
  refine pv_icmp_ne (pc := 36) (tgt := 43) dX11_isUnder_36 (by decide) (fun q => absurd q (by decide)) (fun _ => ?_)
  refine pv_iconst (pc := 39) (v := 1) dX11_isUnder_39 (by decide) ?_
  refine pv_goto (pc := 40) (tgt := 44) dX11_isUnder_40 (by decide) ?_
  refine pv_iret (pc := 44) dX11_isUnder_44 rfl rfl ?_
  exact ⟨rfl, rfl, rfl, rfl, rfl⟩

set_option maxRecDepth 100000 in
set_option maxHeartbeats 4000000 in
theorem c_un_6_5 {G : pv_G} {d : Nat} {t : pv_T} {I : pv_I} {L : pv_L} {Rf : pv_R} (hd : 1 ≤ d) : pv_Mt G mX11_isUnder d 0 0 [.int 6, .int 5] t I L Rf (pv_is (some (.int (pv_b (x_un 6 5)))) t I L Rf) := by
  refine pv_mt mgX11_isUnder.2.2.2.2.2 [.int 6, .int 5, .retAddr 0, .retAddr 0] rfl (Nat.le_of_ble_eq_true rfl) ?_
  refine pv_know (fun hq => ?_)
  have hab : t.1 1 = some (.inl (.int, 7)) := (hq 1 (by decide)).1
  have hav : ∀ j, j < 7 → I 1 j = pv_above j := (hq 1 (by decide)).2 _ rfl
  refine pv_iload_0 (pc := 0) dX11_isUnder_0 ?_
  refine pv_istore_2 (pc := 1) dX11_isUnder_1 (by decide) rfl ?_
  refine pv_iconst (pc := 2) (v := 0) dX11_isUnder_2 (by decide) ?_
  refine pv_istore_3 (pc := 3) dX11_isUnder_3 (by decide) rfl ?_
  refine pv_iload_3 (pc := 4) dX11_isUnder_4 ?_
  refine pv_bipush (pc := 5) (v := 7) dX11_isUnder_5 (by decide) ?_
  refine pv_icmp_ge (pc := 7) (tgt := 34) dX11_isUnder_7 (by decide) (fun q => absurd q (by decide)) (fun _ => ?_)
  refine pv_iload_2 (pc := 10) dX11_isUnder_10 ?_
  refine pv_callS1 (pc := 11) dX11_isUnder_11 mgX11_isKind ls_X11_129 (by omega) (c_X11_isKind ) rfl rfl (by decide) ?_
  refine pv_topv2 (y := 1) (by decide) ?_
  refine pv_if_eq (pc := 14) (tgt := 34) dX11_isUnder_14 (by decide) (fun q => absurd q (by decide)) (fun _ => ?_)
  refine pv_iload_2 (pc := 17) dX11_isUnder_17 ?_
  refine pv_iload_1 (pc := 18) dX11_isUnder_18 ?_
  refine pv_icmp_eq (pc := 19) (tgt := 34) dX11_isUnder_19 (by decide) (fun q => absurd q (by decide)) (fun _ => ?_)
  refine pv_gsAbove (pc := 22) dX11_isUnder_22 sl_X11_345 ?_
  refine pv_iload_2 (pc := 25) dX11_isUnder_25 ?_
  refine pv_ialoadj (pc := 26) dX11_isUnder_26 hab (j := 6) (by decide) (by unfold vp_in; decide) ?_
  refine pv_topv2 (y := 4) (by rw [hav _ (by decide)]; decide) ?_
  refine pv_istore_2 (pc := 27) dX11_isUnder_27 (by decide) rfl ?_
  refine pv_iinc_3 (pc := 28) (v := 1) dX11_isUnder_28 (by decide) (by decide) rfl ?_
  refine pv_goto (pc := 31) (tgt := 4) dX11_isUnder_31 (by decide) ?_
  refine pv_iload_3 (pc := 4) dX11_isUnder_4 ?_
  refine pv_bipush (pc := 5) (v := 7) dX11_isUnder_5 (by decide) ?_
  refine pv_icmp_ge (pc := 7) (tgt := 34) dX11_isUnder_7 (by decide) (fun q => absurd q (by decide)) (fun _ => ?_)
  refine pv_iload_2 (pc := 10) dX11_isUnder_10 ?_
  refine pv_callS1 (pc := 11) dX11_isUnder_11 mgX11_isKind ls_X11_129 (by omega) (c_X11_isKind ) rfl rfl (by decide) ?_
  refine pv_topv2 (y := 1) (by decide) ?_
  refine pv_if_eq (pc := 14) (tgt := 34) dX11_isUnder_14 (by decide) (fun q => absurd q (by decide)) (fun _ => ?_)
  refine pv_iload_2 (pc := 17) dX11_isUnder_17 ?_
  refine pv_iload_1 (pc := 18) dX11_isUnder_18 ?_
  refine pv_icmp_eq (pc := 19) (tgt := 34) dX11_isUnder_19 (by decide) (fun q => absurd q (by decide)) (fun _ => ?_)
  refine pv_gsAbove (pc := 22) dX11_isUnder_22 sl_X11_345 ?_
  refine pv_iload_2 (pc := 25) dX11_isUnder_25 ?_
  refine pv_ialoadj (pc := 26) dX11_isUnder_26 hab (j := 4) (by decide) (by unfold vp_in; decide) ?_
  refine pv_topv2 (y := 0) (by rw [hav _ (by decide)]; decide) ?_
  refine pv_istore_2 (pc := 27) dX11_isUnder_27 (by decide) rfl ?_
  refine pv_iinc_3 (pc := 28) (v := 2) dX11_isUnder_28 (by decide) (by decide) rfl ?_
  refine pv_goto (pc := 31) (tgt := 4) dX11_isUnder_31 (by decide) ?_
  refine pv_iload_3 (pc := 4) dX11_isUnder_4 ?_
  refine pv_bipush (pc := 5) (v := 7) dX11_isUnder_5 (by decide) ?_
  refine pv_icmp_ge (pc := 7) (tgt := 34) dX11_isUnder_7 (by decide) (fun q => absurd q (by decide)) (fun _ => ?_)
  refine pv_iload_2 (pc := 10) dX11_isUnder_10 ?_
  refine pv_callS1 (pc := 11) dX11_isUnder_11 mgX11_isKind ls_X11_129 (by omega) (c_X11_isKind ) rfl rfl (by decide) ?_
  refine pv_topv2 (y := 1) (by decide) ?_
  refine pv_if_eq (pc := 14) (tgt := 34) dX11_isUnder_14 (by decide) (fun q => absurd q (by decide)) (fun _ => ?_)
  refine pv_iload_2 (pc := 17) dX11_isUnder_17 ?_
  refine pv_iload_1 (pc := 18) dX11_isUnder_18 ?_
  refine pv_icmp_eq (pc := 19) (tgt := 34) dX11_isUnder_19 (by decide) (fun q => absurd q (by decide)) (fun _ => ?_)
  refine pv_gsAbove (pc := 22) dX11_isUnder_22 sl_X11_345 ?_
  refine pv_iload_2 (pc := 25) dX11_isUnder_25 ?_
  refine pv_ialoadj (pc := 26) dX11_isUnder_26 hab (j := 0) (by decide) (by unfold vp_in; decide) ?_
  refine pv_topv2 (y := (-1)) (by rw [hav _ (by decide)]; decide) ?_
  refine pv_istore_2 (pc := 27) dX11_isUnder_27 (by decide) rfl ?_
  refine pv_iinc_3 (pc := 28) (v := 3) dX11_isUnder_28 (by decide) (by decide) rfl ?_
  refine pv_goto (pc := 31) (tgt := 4) dX11_isUnder_31 (by decide) ?_
  refine pv_iload_3 (pc := 4) dX11_isUnder_4 ?_
  refine pv_bipush (pc := 5) (v := 7) dX11_isUnder_5 (by decide) ?_
  refine pv_icmp_ge (pc := 7) (tgt := 34) dX11_isUnder_7 (by decide) (fun q => absurd q (by decide)) (fun _ => ?_)
  refine pv_iload_2 (pc := 10) dX11_isUnder_10 ?_
  refine pv_callS1 (pc := 11) dX11_isUnder_11 mgX11_isKind ls_X11_129 (by omega) (c_X11_isKind ) rfl rfl (by decide) ?_
  refine pv_topv2 (y := 0) (by decide) ?_
  refine pv_if_eq (pc := 14) (tgt := 34) dX11_isUnder_14 (by decide) (fun _ => ?_) (fun q => absurd q (by decide))
  refine pv_iload_2 (pc := 34) dX11_isUnder_34 ?_
  refine pv_iload_1 (pc := 35) dX11_isUnder_35 ?_
  refine pv_icmp_ne (pc := 36) (tgt := 43) dX11_isUnder_36 (by decide) (fun _ => ?_) (fun q => absurd q (by decide))
  refine pv_iconst (pc := 43) (v := 0) dX11_isUnder_43 (by decide) ?_
  refine pv_iret (pc := 44) dX11_isUnder_44 rfl rfl ?_
  exact ⟨rfl, rfl, rfl, rfl, rfl⟩

set_option maxRecDepth 100000 in
set_option maxHeartbeats 4000000 in
theorem c_un_6_6 {G : pv_G} {d : Nat} {t : pv_T} {I : pv_I} {L : pv_L} {Rf : pv_R} (hd : 1 ≤ d) : pv_Mt G mX11_isUnder d 0 0 [.int 6, .int 6] t I L Rf (pv_is (some (.int (pv_b (x_un 6 6)))) t I L Rf) := by
  refine pv_mt mgX11_isUnder.2.2.2.2.2 [.int 6, .int 6, .retAddr 0, .retAddr 0] rfl (Nat.le_of_ble_eq_true rfl) ?_
  refine pv_know (fun hq => ?_)
  have hab : t.1 1 = some (.inl (.int, 7)) := (hq 1 (by decide)).1
  have hav : ∀ j, j < 7 → I 1 j = pv_above j := (hq 1 (by decide)).2 _ rfl
  refine pv_iload_0 (pc := 0) dX11_isUnder_0 ?_
  refine pv_istore_2 (pc := 1) dX11_isUnder_1 (by decide) rfl ?_
  refine pv_iconst (pc := 2) (v := 0) dX11_isUnder_2 (by decide) ?_
  refine pv_istore_3 (pc := 3) dX11_isUnder_3 (by decide) rfl ?_
  refine pv_iload_3 (pc := 4) dX11_isUnder_4 ?_
  refine pv_bipush (pc := 5) (v := 7) dX11_isUnder_5 (by decide) ?_
  refine pv_icmp_ge (pc := 7) (tgt := 34) dX11_isUnder_7 (by decide) (fun q => absurd q (by decide)) (fun _ => ?_)
  refine pv_iload_2 (pc := 10) dX11_isUnder_10 ?_
  refine pv_callS1 (pc := 11) dX11_isUnder_11 mgX11_isKind ls_X11_129 (by omega) (c_X11_isKind ) rfl rfl (by decide) ?_
  refine pv_topv2 (y := 1) (by decide) ?_
  refine pv_if_eq (pc := 14) (tgt := 34) dX11_isUnder_14 (by decide) (fun q => absurd q (by decide)) (fun _ => ?_)
  refine pv_iload_2 (pc := 17) dX11_isUnder_17 ?_
  refine pv_iload_1 (pc := 18) dX11_isUnder_18 ?_
  refine pv_icmp_eq (pc := 19) (tgt := 34) dX11_isUnder_19 (by decide) (fun _ => ?_) (fun q => absurd q (by decide))
  refine pv_iload_2 (pc := 34) dX11_isUnder_34 ?_
  refine pv_iload_1 (pc := 35) dX11_isUnder_35 ?_
  refine pv_icmp_ne (pc := 36) (tgt := 43) dX11_isUnder_36 (by decide) (fun q => absurd q (by decide)) (fun _ => ?_)
  refine pv_iconst (pc := 39) (v := 1) dX11_isUnder_39 (by decide) ?_
  refine pv_goto (pc := 40) (tgt := 44) dX11_isUnder_40 (by decide) ?_
  refine pv_iret (pc := 44) dX11_isUnder_44 rfl rfl ?_
  exact ⟨rfl, rfl, rfl, rfl, rfl⟩

theorem c_un {G : pv_G} {d : Nat} {k w : Int32} {t : pv_T} {I : pv_I} {L : pv_L} {Rf : pv_R} (hk : 0 ≤ k ∧ k ≤ 6) (hw : 0 ≤ w ∧ w ≤ 6) (hd : 1 ≤ d) : pv_Mt G mX11_isUnder d 0 0 [.int k, .int w] t I L Rf (pv_is (some (.int (pv_b (x_un k w)))) t I L Rf) := by
  rcases i_7 hk with rfl | rfl | rfl | rfl | rfl | rfl | rfl
  · rcases i_7 hw with rfl | rfl | rfl | rfl | rfl | rfl | rfl
    · exact c_un_0_0 hd
    · exact c_un_0_1 hd
    · exact c_un_0_2 hd
    · exact c_un_0_3 hd
    · exact c_un_0_4 hd
    · exact c_un_0_5 hd
    · exact c_un_0_6 hd
  · rcases i_7 hw with rfl | rfl | rfl | rfl | rfl | rfl | rfl
    · exact c_un_1_0 hd
    · exact c_un_1_1 hd
    · exact c_un_1_2 hd
    · exact c_un_1_3 hd
    · exact c_un_1_4 hd
    · exact c_un_1_5 hd
    · exact c_un_1_6 hd
  · rcases i_7 hw with rfl | rfl | rfl | rfl | rfl | rfl | rfl
    · exact c_un_2_0 hd
    · exact c_un_2_1 hd
    · exact c_un_2_2 hd
    · exact c_un_2_3 hd
    · exact c_un_2_4 hd
    · exact c_un_2_5 hd
    · exact c_un_2_6 hd
  · rcases i_7 hw with rfl | rfl | rfl | rfl | rfl | rfl | rfl
    · exact c_un_3_0 hd
    · exact c_un_3_1 hd
    · exact c_un_3_2 hd
    · exact c_un_3_3 hd
    · exact c_un_3_4 hd
    · exact c_un_3_5 hd
    · exact c_un_3_6 hd
  · rcases i_7 hw with rfl | rfl | rfl | rfl | rfl | rfl | rfl
    · exact c_un_4_0 hd
    · exact c_un_4_1 hd
    · exact c_un_4_2 hd
    · exact c_un_4_3 hd
    · exact c_un_4_4 hd
    · exact c_un_4_5 hd
    · exact c_un_4_6 hd
  · rcases i_7 hw with rfl | rfl | rfl | rfl | rfl | rfl | rfl
    · exact c_un_5_0 hd
    · exact c_un_5_1 hd
    · exact c_un_5_2 hd
    · exact c_un_5_3 hd
    · exact c_un_5_4 hd
    · exact c_un_5_5 hd
    · exact c_un_5_6 hd
  · rcases i_7 hw with rfl | rfl | rfl | rfl | rfl | rfl | rfl
    · exact c_un_6_0 hd
    · exact c_un_6_1 hd
    · exact c_un_6_2 hd
    · exact c_un_6_3 hd
    · exact c_un_6_4 hd
    · exact c_un_6_5 hd
    · exact c_un_6_6 hd
set_option maxRecDepth 100000 in
set_option maxHeartbeats 4000000 in
theorem c_say_3 {G : pv_G} {d : Nat} {x : Nat} {t : pv_T} {I : pv_I} {L : pv_L} {Rf : pv_R} (hx : 90 ≤ x) (hs : t.1 x = some (.inr 3))  : pv_Mt G mX3_saying d 0 0 [.ref x] t I L Rf (pv_is (some (.int (I x 3))) t I L Rf) := by
  refine pv_mt mgX3_saying.2.2.2.2.2 [.ref x] rfl (Nat.le_of_ble_eq_true rfl) ?_
  refine pv_aload_0 (pc := 0) dX3_saying_0 ?_
  refine pv_getI (pc := 1) dX3_saying_1 fg_X3_19_3 rfl (by omega) hs ?_
  refine pv_iret (pc := 4) dX3_saying_4 rfl rfl ?_
  exact ⟨rfl, rfl, rfl, rfl, rfl⟩

set_option maxRecDepth 100000 in
set_option maxHeartbeats 4000000 in
theorem c_X1_more_1 {G : pv_G} {d : Nat} {x : Nat} {t : pv_T} {I : pv_I} {L : pv_L} {Rf : pv_R} (hx : 90 ≤ x) (hs : t.1 x = some (.inr 1))  : pv_Mt G mX1_more d 0 0 [.ref x] t I L Rf (pv_is (some (.int (1))) t I L Rf) := by
  refine pv_mt mgX1_more.2.2.2.2.2 [.ref x] rfl (Nat.le_of_ble_eq_true rfl) ?_
  refine pv_iconst (pc := 0) (v := 1) dX1_more_0 (by decide) ?_
  refine pv_iret (pc := 1) dX1_more_1 rfl rfl ?_
  exact ⟨rfl, rfl, rfl, rfl, rfl⟩

set_option maxRecDepth 100000 in
set_option maxHeartbeats 4000000 in
theorem c_say_1 {G : pv_G} {d : Nat} {x : Nat} {t : pv_T} {I : pv_I} {L : pv_L} {Rf : pv_R} (hx : 90 ≤ x) (hs : t.1 x = some (.inr 1)) (hd : 1 ≤ d) : pv_Mt G mX1_saying d 0 0 [.ref x] t I L Rf (pv_is (some (.int (1))) t I L Rf) := by
  refine pv_mt mgX1_saying.2.2.2.2.2 [.ref x] rfl (Nat.le_of_ble_eq_true rfl) ?_
  refine pv_aload_0 (pc := 0) dX1_saying_0 ?_
  refine pv_callU1 (pc := 1) dX1_saying_1 mgX1_more lu_X1_7_1 (by omega) hs (by omega) (c_X1_more_1 hx hs) rfl rfl (by decide) ?_
  refine pv_if_ge (pc := 4) (tgt := 17) dX1_saying_4 (by decide) (fun _ => ?_) (fun q => absurd q (by decide))
  refine pv_aload_0 (pc := 17) dX1_saying_17 ?_
  refine pv_callU1 (pc := 18) dX1_saying_18 mgX1_more lu_X1_7_1 (by omega) hs (by omega) (c_X1_more_1 hx hs) rfl rfl (by decide) ?_
  refine pv_iret (pc := 21) dX1_saying_21 rfl rfl ?_
  exact ⟨rfl, rfl, rfl, rfl, rfl⟩

set_option maxRecDepth 100000 in
set_option maxHeartbeats 4000000 in
theorem c_X10_more_10 {G : pv_G} {d : Nat} {x : Nat} {t : pv_T} {I : pv_I} {L : pv_L} {Rf : pv_R} (hx : 90 ≤ x) (hs : t.1 x = some (.inr 10))  : pv_Mt G mX10_more d 0 0 [.ref x] t I L Rf (pv_is (some (.int (-1))) t I L Rf) := by
  refine pv_mt mgX10_more.2.2.2.2.2 [.ref x] rfl (Nat.le_of_ble_eq_true rfl) ?_
  refine pv_iconst (pc := 0) (v := (-1)) dX10_more_0 (by decide) ?_
  refine pv_iret (pc := 1) dX10_more_1 rfl rfl ?_
  exact ⟨rfl, rfl, rfl, rfl, rfl⟩

set_option maxRecDepth 100000 in
set_option maxHeartbeats 4000000 in
theorem c_say_10 {G : pv_G} {d : Nat} {x : Nat} {t : pv_T} {I : pv_I} {L : pv_L} {Rf : pv_R} (hx : 90 ≤ x) (hs : t.1 x = some (.inr 10)) (hd : 1 ≤ d) : pv_Mt G mX1_saying d 0 0 [.ref x] t I L Rf (pv_is (some (.int (9))) t I L Rf) := by
  refine pv_mt mgX1_saying.2.2.2.2.2 [.ref x] rfl (Nat.le_of_ble_eq_true rfl) ?_
  refine pv_aload_0 (pc := 0) dX1_saying_0 ?_
  refine pv_callU1 (pc := 1) dX1_saying_1 mgX10_more lu_X1_7_10 (by omega) hs (by omega) (c_X10_more_10 hx hs) rfl rfl (by decide) ?_
  refine pv_if_ge (pc := 4) (tgt := 17) dX1_saying_4 (by decide) (fun q => absurd q (by decide)) (fun _ => ?_)
  refine pv_bipush (pc := 7) (v := 10) dX1_saying_7 (by decide) ?_
  refine pv_aload_0 (pc := 9) dX1_saying_9 ?_
  refine pv_callU1 (pc := 10) dX1_saying_10 mgX10_more lu_X1_7_10 (by omega) hs (by omega) (c_X10_more_10 hx hs) rfl rfl (Nat.le_of_ble_eq_true rfl) ?_
  refine pv_iadd (pc := 13) dX1_saying_13 ?_
  refine pv_topv (y := 9) (by decide) ?_
  refine pv_goto (pc := 14) (tgt := 21) dX1_saying_14 (by decide) ?_
  refine pv_iret (pc := 21) dX1_saying_21 rfl rfl ?_
  exact ⟨rfl, rfl, rfl, rfl, rfl⟩

set_option maxRecDepth 100000 in
set_option maxHeartbeats 4000000 in
theorem c_X5_more_5 {G : pv_G} {d : Nat} {x : Nat} {t : pv_T} {I : pv_I} {L : pv_L} {Rf : pv_R} (hx : 90 ≤ x) (hs : t.1 x = some (.inr 5))  : pv_Mt G mX5_more d 0 0 [.ref x] t I L Rf (pv_is (some (.int (I x 2))) t I L Rf) := by
  refine pv_mt mgX5_more.2.2.2.2.2 [.ref x] rfl (Nat.le_of_ble_eq_true rfl) ?_
  refine pv_aload_0 (pc := 0) dX5_more_0 ?_
  refine pv_getI (pc := 1) dX5_more_1 fg_X5_7_5 rfl (by omega) hs ?_
  refine pv_iret (pc := 4) dX5_more_4 rfl rfl ?_
  exact ⟨rfl, rfl, rfl, rfl, rfl⟩

set_option maxRecDepth 100000 in
set_option maxHeartbeats 4000000 in
theorem c_say_5 {G : pv_G} {d : Nat} {x : Nat} {t : pv_T} {I : pv_I} {L : pv_L} {Rf : pv_R} (hx : 90 ≤ x) (hs : t.1 x = some (.inr 5)) (ha : 0 ≤ (I x 2).toInt) (hd : 1 ≤ d) : pv_Mt G mX1_saying d 0 0 [.ref x] t I L Rf (pv_is (some (.int (I x 2))) t I L Rf) := by
  refine pv_mt mgX1_saying.2.2.2.2.2 [.ref x] rfl (Nat.le_of_ble_eq_true rfl) ?_
  refine pv_aload_0 (pc := 0) dX1_saying_0 ?_
  refine pv_callU1 (pc := 1) dX1_saying_1 mgX5_more lu_X1_7_5 (by omega) hs (by omega) (c_X5_more_5 hx hs) rfl rfl (by decide) ?_
  refine pv_if_ge (pc := 4) (tgt := 17) dX1_saying_4 (by decide) (fun h4 => ?_) (fun h4 => absurd h4 (fun z => by rw [i_lt, Int32.toInt_zero] at z; omega))
  refine pv_aload_0 (pc := 17) dX1_saying_17 ?_
  refine pv_callU1 (pc := 18) dX1_saying_18 mgX5_more lu_X1_7_5 (by omega) hs (by omega) (c_X5_more_5 hx hs) rfl rfl (by decide) ?_
  refine pv_iret (pc := 21) dX1_saying_21 rfl rfl ?_
  exact ⟨rfl, rfl, rfl, rfl, rfl⟩

set_option maxRecDepth 100000 in
set_option maxHeartbeats 4000000 in
theorem c_X9_turns_9 {G : pv_G} {d : Nat} {x : Nat} {t : pv_T} {I : pv_I} {L : pv_L} {Rf : pv_R} (hx : 90 ≤ x) (hs : t.1 x = some (.inr 9))  : pv_Mt G mX9_turns d 0 0 [.ref x] t I L Rf (pv_is (some (.int (1))) t I L Rf) := by
  refine pv_mt mgX9_turns.2.2.2.2.2 [.ref x] rfl (Nat.le_of_ble_eq_true rfl) ?_
  refine pv_iconst (pc := 0) (v := 1) dX9_turns_0 (by decide) ?_
  refine pv_iret (pc := 1) dX9_turns_1 rfl rfl ?_
  exact ⟨rfl, rfl, rfl, rfl, rfl⟩

set_option maxRecDepth 100000 in
set_option maxHeartbeats 4000000 in
theorem c_say_9 {G : pv_G} {d : Nat} {x : Nat} {t : pv_T} {I : pv_I} {L : pv_L} {Rf : pv_R} (hx : 90 ≤ x) (hs : t.1 x = some (.inr 9)) (hd : 1 ≤ d) : pv_Mt G mX9_saying d 0 0 [.ref x] t I L Rf (pv_is (some (.int (1))) t I L Rf) := by
  refine pv_mt mgX9_saying.2.2.2.2.2 [.ref x] rfl (Nat.le_of_ble_eq_true rfl) ?_
  refine pv_aload_0 (pc := 0) dX9_saying_0 ?_
  refine pv_callU1 (pc := 1) dX9_saying_1 mgX9_turns lu_X9_7_9 (by omega) hs (by omega) (c_X9_turns_9 hx hs) rfl rfl (by decide) ?_
  refine pv_iconst (pc := 4) (v := 3) dX9_saying_4 (by decide) ?_
  refine pv_iand (pc := 5) dX9_saying_5 ?_
  refine pv_topv (y := 1) (by decide) ?_
  refine pv_iret (pc := 6) dX9_saying_6 rfl rfl ?_
  exact ⟨rfl, rfl, rfl, rfl, rfl⟩

set_option maxRecDepth 100000 in
set_option maxHeartbeats 4000000 in
theorem c_X0_turns_0 {G : pv_G} {d : Nat} {x : Nat} {t : pv_T} {I : pv_I} {L : pv_L} {Rf : pv_R} (hx : 90 ≤ x) (hs : t.1 x = some (.inr 0))  : pv_Mt G mX0_turns d 0 0 [.ref x] t I L Rf (pv_is (some (.int (3))) t I L Rf) := by
  refine pv_mt mgX0_turns.2.2.2.2.2 [.ref x] rfl (Nat.le_of_ble_eq_true rfl) ?_
  refine pv_iconst (pc := 0) (v := 3) dX0_turns_0 (by decide) ?_
  refine pv_iret (pc := 1) dX0_turns_1 rfl rfl ?_
  exact ⟨rfl, rfl, rfl, rfl, rfl⟩

set_option maxRecDepth 100000 in
set_option maxHeartbeats 4000000 in
theorem c_say_0 {G : pv_G} {d : Nat} {x : Nat} {t : pv_T} {I : pv_I} {L : pv_L} {Rf : pv_R} (hx : 90 ≤ x) (hs : t.1 x = some (.inr 0)) (hd : 1 ≤ d) : pv_Mt G mX9_saying d 0 0 [.ref x] t I L Rf (pv_is (some (.int (3))) t I L Rf) := by
  refine pv_mt mgX9_saying.2.2.2.2.2 [.ref x] rfl (Nat.le_of_ble_eq_true rfl) ?_
  refine pv_aload_0 (pc := 0) dX9_saying_0 ?_
  refine pv_callU1 (pc := 1) dX9_saying_1 mgX0_turns lu_X9_7_0 (by omega) hs (by omega) (c_X0_turns_0 hx hs) rfl rfl (by decide) ?_
  refine pv_iconst (pc := 4) (v := 3) dX9_saying_4 (by decide) ?_
  refine pv_iand (pc := 5) dX9_saying_5 ?_
  refine pv_topv (y := 3) (by decide) ?_
  refine pv_iret (pc := 6) dX9_saying_6 rfl rfl ?_
  exact ⟨rfl, rfl, rfl, rfl, rfl⟩

set_option maxRecDepth 100000 in
set_option maxHeartbeats 4000000 in
theorem c_X6_turns_6 {G : pv_G} {d : Nat} {x : Nat} {t : pv_T} {I : pv_I} {L : pv_L} {Rf : pv_R} (hx : 90 ≤ x) (hs : t.1 x = some (.inr 6))  : pv_Mt G mX6_turns d 0 0 [.ref x] t I L Rf (pv_is (some (.int (I x 2))) t I L Rf) := by
  refine pv_mt mgX6_turns.2.2.2.2.2 [.ref x] rfl (Nat.le_of_ble_eq_true rfl) ?_
  refine pv_aload_0 (pc := 0) dX6_turns_0 ?_
  refine pv_getI (pc := 1) dX6_turns_1 fg_X6_7_6 rfl (by omega) hs ?_
  refine pv_iret (pc := 4) dX6_turns_4 rfl rfl ?_
  exact ⟨rfl, rfl, rfl, rfl, rfl⟩

set_option maxRecDepth 100000 in
set_option maxHeartbeats 4000000 in
theorem c_say_6 {G : pv_G} {d : Nat} {x : Nat} {t : pv_T} {I : pv_I} {L : pv_L} {Rf : pv_R} (hx : 90 ≤ x) (hs : t.1 x = some (.inr 6)) (hd : 1 ≤ d) : pv_Mt G mX9_saying d 0 0 [.ref x] t I L Rf (pv_is (some (.int (I x 2 &&& 3))) t I L Rf) := by
  refine pv_mt mgX9_saying.2.2.2.2.2 [.ref x] rfl (Nat.le_of_ble_eq_true rfl) ?_
  refine pv_aload_0 (pc := 0) dX9_saying_0 ?_
  refine pv_callU1 (pc := 1) dX9_saying_1 mgX6_turns lu_X9_7_6 (by omega) hs (by omega) (c_X6_turns_6 hx hs) rfl rfl (by decide) ?_
  refine pv_iconst (pc := 4) (v := 3) dX9_saying_4 (by decide) ?_
  refine pv_iand (pc := 5) dX9_saying_5 ?_
  refine pv_iret (pc := 6) dX9_saying_6 rfl rfl ?_
  exact ⟨rfl, rfl, rfl, rfl, rfl⟩

theorem i_a34 {a : Int32} (h : 0 ≤ a.toInt ∧ a.toInt ≤ 9) : a &&& 3 = a % 4 := by
  have h1 : (a &&& 3).toInt = a.toInt % 2 ^ 2 := Jvm.Kit.i32_mask a 3 (by decide) (by decide)
  have h2 : (a % 4).toInt = a.toInt.tmod 4 := by rw [Int32.toInt_mod]; rfl
  rw [← Int32.toInt_inj, h1, h2, Int.tmod_eq_emod_of_nonneg h.1]; rfl
theorem w_says_1 {J : pv_I} {K : pv_L} {s k : Int32} (h : ¬ (s_sh s = true ∧ 0 ≤ k ∧ k ≤ 6)) : S_says J K s k = S_ref J K 1 (.int (-1)) := by unfold S_says; rw [if_neg h]
def s_kind (k : Int32) : Bool := decide (0 ≤ k) && decide (k < 7)
theorem i_k07 {k : Int32} (h : s_kind k = true) : 0 ≤ k ∧ k ≤ 6 := by
  simp only [s_kind, Bool.and_eq_true, decide_eq_true_eq] at h
  obtain ⟨h1, h2⟩ := h
  refine ⟨h1, ?_⟩
  rw [i_lt, show (7 : Int32).toInt = 7 by decide] at h2
  rw [i_le, show (6 : Int32).toInt = 6 by decide]; omega
theorem i_k7n {k : Int32} (h : s_kind k = false) : ¬ (0 ≤ k ∧ k ≤ 6) := fun q => by
  obtain ⟨h1, h2⟩ := q
  have h3 : k < 7 := by rw [i_le, show (6 : Int32).toInt = 6 by decide] at h2; rw [i_lt, show (7 : Int32).toInt = 7 by decide]; omega
  rw [s_kind, decide_eq_true h1, decide_eq_true h3] at h
  exact absurd h (by decide)
theorem x_un0 {k : Int32} (h : x_un 0 k = true) : k = 0 := by
  rcases x_un_iff.mp h with q | q | q | q
  · exact q
  · exact q
  · exact absurd q.2 (by decide)
  · exact absurd q.2 (by decide)
set_option maxRecDepth 100000 in
set_option maxHeartbeats 4000000 in
theorem c_X11_says {G : pv_G} {d : Nat} {J : pv_I} {K : pv_L} {s k : Int32} {t : pv_T} {I : pv_I} {L : pv_L} {Rf : pv_R} (hW : WF J K) (hX : RX J K t I L Rf)  (hd : 60 ≤ d) : pv_Mt G mX11_says d 0 0 [.ref 16, .int s, .int k] t I L Rf (qX (S_says J K s k) I L) := by
  refine pv_mt mgX11_says.2.2.2.2.2 [.ref 16, .int s, .int k, .retAddr 0, .retAddr 0] rfl (Nat.le_of_ble_eq_true rfl) ?_
  have hT := hX.1
  have hR := hX.2.1
  obtain ⟨-, -, ⟨xp, xq, xn, xst, xsp, xsd, xc⟩, xf, xs, xb, xi⟩ := id hX
  by_cases hs : s_sh s = true
  · have hin := s_sh_in hs
    have hs8 : s.toNatClampNeg < 8 := (pv_in_lt hin).2.2.1
    have hkd := x_kind hW hX hs8
    rcases hkd with ⟨k1, k2, k3, k4⟩ | ⟨k1, k2, k3, k4, k5, k6, k7⟩ | ⟨k1, k2, k3, k4, k5⟩
    · skip
      refine pv_aload_0 (pc := 0) dX11_says_0 ?_
      refine pv_iload_1 (pc := 1) dX11_says_1 ?_
      refine pv_callV1 (pc := 2) dX11_says_2 mgX11_shelfAt lv_X11_66_11 (by decide) (sx_16 hT) (by omega) (c_X11_shelfAt1 hT hR hin) rfl rfl (by decide) ?_
      refine pv_astore_3 (pc := 5) dX11_says_5 (by decide) rfl ?_
      refine pv_aload_3 (pc := 6) dX11_says_6 ?_
      refine pv_ifnull (pc := 7) dX11_says_7 ?_
      refine pv_iload_2 (pc := 10) dX11_says_10 ?_
      refine pv_callS1 (pc := 11) dX11_says_11 mgX11_isKind ls_X11_129 (by omega) (c_X11_isKind ) rfl rfl (by decide) ?_
      refine pv_if_ne (pc := 14) (tgt := 23) dX11_says_14 (by decide) (fun h14 => ?_) (fun h14 => ?_)
      · refine pv_aload_3 (pc := 23) dX11_says_23 ?_
        refine pv_callV1 (pc := 24) dX11_says_24 mgX8_isRow lv_X11_122_8 (by omega) (sx_sh hT hs8) (by omega) (c_X8_isRow hT hR hs8) rfl rfl (by decide) ?_
        refine pv_topv2 (y := 0) (by rw [k2]; decide) ?_
        refine pv_if_eq (pc := 27) (tgt := 36) dX11_says_27 (by decide) (fun _ => ?_) (fun q => absurd q (by decide))
        refine pv_aload_0 (pc := 36) dX11_says_36 ?_
        refine pv_aload_0 (pc := 37) dX11_says_37 ?_
        refine pv_getR (pc := 38) dX11_says_38 fg_X11_31_11 rfl (by decide) (sx_16 hT) (rx_16_4 hR) ?_
        refine pv_aload_3 (pc := 41) dX11_says_41 ?_
        refine pv_getI (pc := 42) dX11_says_42 fg_X11_126_8 rfl (by omega) (sx_sh hT hs8) ?_
        refine pv_topv2 (y := (-1)) k4 ?_
        refine pv_callV1 (pc := 45) dX11_says_45 mgX11_figureAt lv_X11_114_11 (by decide) (sx_16 hT) (by omega) (c_X11_figureAt0 hT hR (by decide) (sx_21 hT) (fun q => absurd q.1 (by decide))) rfl rfl (by decide) ?_
        refine pv_astoreN_4 (pc := 48) dX11_says_48 (by decide) rfl ?_
        refine pv_aloadN_4 (pc := 50) dX11_says_50 ?_
        refine pv_ifnonnullN (pc := 52) dX11_says_52 ?_
        refine pv_aload_0 (pc := 55) dX11_says_55 ?_
        refine pv_iconst (pc := 56) (v := 3) dX11_says_56 (by decide) ?_
        refine pv_callV1 (pc := 57) dX11_says_57 mgX11_refuse lv_X11_70_11 (by decide) (sx_16 hT) (by omega) (c_X11_refuse (k := 3) hT hR (by decide) (by unfold vp_in; decide)) rfl rfl (by decide) ?_
        refine pv_iret (pc := 60) dX11_says_60 rfl rfl ?_
        have g07 := i_k07 ((pv_b_n0 _).mp h14)
        refine qX.ref hX (by decide : 3 < 8) ?_; unfold S_says w_sh; rw [if_pos ⟨hs, g07⟩, if_neg (by rw [k1]; decide), if_pos k1]
      · refine pv_aload_0 (pc := 17) dX11_says_17 ?_
        refine pv_iconst (pc := 18) (v := 1) dX11_says_18 (by decide) ?_
        refine pv_callV1 (pc := 19) dX11_says_19 mgX11_refuse lv_X11_70_11 (by decide) (sx_16 hT) (by omega) (c_X11_refuse (k := 1) hT hR (by decide) (by unfold vp_in; decide)) rfl rfl (by decide) ?_
        refine pv_iret (pc := 22) dX11_says_22 rfl rfl ?_
        have f1 := (pv_b_0 _).mp (by first | exact h14 | exact Classical.not_not.mp h14)
        refine qX.ref hX (by decide : 1 < 8) ?_; exact w_says_1 (fun q => i_k7n f1 q.2)
    · skip
      refine pv_aload_0 (pc := 0) dX11_says_0 ?_
      refine pv_iload_1 (pc := 1) dX11_says_1 ?_
      refine pv_callV1 (pc := 2) dX11_says_2 mgX11_shelfAt lv_X11_66_11 (by decide) (sx_16 hT) (by omega) (c_X11_shelfAt1 hT hR hin) rfl rfl (by decide) ?_
      refine pv_astore_3 (pc := 5) dX11_says_5 (by decide) rfl ?_
      refine pv_aload_3 (pc := 6) dX11_says_6 ?_
      refine pv_ifnull (pc := 7) dX11_says_7 ?_
      refine pv_iload_2 (pc := 10) dX11_says_10 ?_
      refine pv_callS1 (pc := 11) dX11_says_11 mgX11_isKind ls_X11_129 (by omega) (c_X11_isKind ) rfl rfl (by decide) ?_
      refine pv_if_ne (pc := 14) (tgt := 23) dX11_says_14 (by decide) (fun h14 => ?_) (fun h14 => ?_)
      · refine pv_aload_3 (pc := 23) dX11_says_23 ?_
        refine pv_callV1 (pc := 24) dX11_says_24 mgX8_isRow lv_X11_122_8 (by omega) (sx_sh hT hs8) (by omega) (c_X8_isRow hT hR hs8) rfl rfl (by decide) ?_
        refine pv_topv2 (y := 1) (by rw [k2, decide_eq_false k5]; rfl) ?_
        refine pv_if_eq (pc := 27) (tgt := 36) dX11_says_27 (by decide) (fun q => absurd q (by decide)) (fun _ => ?_)
        refine pv_aload_0 (pc := 30) dX11_says_30 ?_
        refine pv_iconst (pc := 31) (v := 2) dX11_says_31 (by decide) ?_
        refine pv_callV1 (pc := 32) dX11_says_32 mgX11_refuse lv_X11_70_11 (by decide) (sx_16 hT) (by omega) (c_X11_refuse (k := 2) hT hR (by decide) (by unfold vp_in; decide)) rfl rfl (by decide) ?_
        refine pv_iret (pc := 35) dX11_says_35 rfl rfl ?_
        have g07 := i_k07 ((pv_b_n0 _).mp h14)
        refine qX.ref hX (by decide : 2 < 8) ?_; unfold S_says w_sh; rw [if_pos ⟨hs, g07⟩, if_pos k1]
      · refine pv_aload_0 (pc := 17) dX11_says_17 ?_
        refine pv_iconst (pc := 18) (v := 1) dX11_says_18 (by decide) ?_
        refine pv_callV1 (pc := 19) dX11_says_19 mgX11_refuse lv_X11_70_11 (by decide) (sx_16 hT) (by omega) (c_X11_refuse (k := 1) hT hR (by decide) (by unfold vp_in; decide)) rfl rfl (by decide) ?_
        refine pv_iret (pc := 22) dX11_says_22 rfl rfl ?_
        have f1 := (pv_b_0 _).mp (by first | exact h14 | exact Classical.not_not.mp h14)
        refine qX.ref hX (by decide : 1 < 8) ?_; exact w_says_1 (fun q => i_k7n f1 q.2)
    · have hw9 := (hW.2.2.2.1 _ hs8).2.2 k1
      have hF : w_isF J (J 9 s.toNatClampNeg) := ⟨by rw [i_le, Int32.toInt_zero]; exact hw9.1, by rw [i_lt]; exact hw9.2⟩
      obtain ⟨x, fx1, fx2, fx3, fx4, fx5, fx6, fx7, fx8, hfb⟩ := xf _ (hF.nat hW).2
      have hfk := fcls_k ((hW.2.1 _ (hF.nat hW).2).1)
      have hA2 := (hW.2.1 _ (hF.nat hW).2).2.1
      rcases hfk with ⟨kk, hfc⟩ | ⟨kk, hfc⟩ | ⟨kk, hfc⟩ | ⟨kk, hfc⟩ | ⟨kk, hfc⟩ | ⟨kk, hfc⟩ | ⟨kk, hfc⟩
      all_goals rw [hfc] at fx4
      · skip
        refine pv_aload_0 (pc := 0) dX11_says_0 ?_
        refine pv_iload_1 (pc := 1) dX11_says_1 ?_
        refine pv_callV1 (pc := 2) dX11_says_2 mgX11_shelfAt lv_X11_66_11 (by decide) (sx_16 hT) (by omega) (c_X11_shelfAt1 hT hR hin) rfl rfl (by decide) ?_
        refine pv_astore_3 (pc := 5) dX11_says_5 (by decide) rfl ?_
        refine pv_aload_3 (pc := 6) dX11_says_6 ?_
        refine pv_ifnull (pc := 7) dX11_says_7 ?_
        refine pv_iload_2 (pc := 10) dX11_says_10 ?_
        refine pv_callS1 (pc := 11) dX11_says_11 mgX11_isKind ls_X11_129 (by omega) (c_X11_isKind ) rfl rfl (by decide) ?_
        refine pv_if_ne (pc := 14) (tgt := 23) dX11_says_14 (by decide) (fun h14 => ?_) (fun h14 => ?_)
        · refine pv_aload_3 (pc := 23) dX11_says_23 ?_
          refine pv_callV1 (pc := 24) dX11_says_24 mgX8_isRow lv_X11_122_8 (by omega) (sx_sh hT hs8) (by omega) (c_X8_isRow hT hR hs8) rfl rfl (by decide) ?_
          refine pv_topv2 (y := 0) (by rw [k2]; decide) ?_
          refine pv_if_eq (pc := 27) (tgt := 36) dX11_says_27 (by decide) (fun _ => ?_) (fun q => absurd q (by decide))
          refine pv_aload_0 (pc := 36) dX11_says_36 ?_
          refine pv_aload_0 (pc := 37) dX11_says_37 ?_
          refine pv_getR (pc := 38) dX11_says_38 fg_X11_31_11 rfl (by decide) (sx_16 hT) (rx_16_4 hR) ?_
          refine pv_aload_3 (pc := 41) dX11_says_41 ?_
          refine pv_getI (pc := 42) dX11_says_42 fg_X11_126_8 rfl (by omega) (sx_sh hT hs8) ?_
          refine pv_topv2 (y := (J 9 s.toNatClampNeg)) k4 ?_
          refine pv_callV1 (pc := 45) dX11_says_45 mgX11_figureAt lv_X11_114_11 (by decide) (sx_16 hT) (by omega) (c_X11_figureAt1 hT hR (by decide) (sx_21 hT) (hF.nat hW).1 (by rw [xn]; exact hF.2) fx1) rfl rfl (by decide) ?_
          refine pv_astore_4 (pc := 48) dX11_says_48 (by decide) rfl ?_
          refine pv_aload_4 (pc := 50) dX11_says_50 ?_
          refine pv_ifnonnull (pc := 52) (tgt := 61) dX11_says_52 (by decide) ?_
          refine pv_aload_4 (pc := 61) dX11_says_61 ?_
          refine pv_getI (pc := 63) dX11_says_63 fg_X11_132_3 rfl (by omega) fx4 ?_
          refine pv_topv2 (y := 0) (fx5.trans kk) ?_
          have g07 := i_k07 ((pv_b_n0 _).mp h14)
          refine pv_iload_2 (pc := 66) dX11_says_66 ?_
          refine pv_callS1 (pc := 67) dX11_says_67 mgX11_isUnder ls_X11_135 (by omega) (c_un (by decide) g07 (by omega)) rfl rfl (by decide) ?_
          refine pv_if_ne (pc := 70) (tgt := 79) dX11_says_70 (by decide) (fun h70 => ?_) (fun h70 => ?_)
          · refine pv_iload_2 (pc := 79) dX11_says_79 ?_
            refine pv_if_ne (pc := 80) (tgt := 91) dX11_says_80 (by decide) (fun h80 => absurd h80 (not_not_intro (x_un0 ((pv_b_n0 _).mp h70)))) (fun h80 => ?_)
            refine pv_aload_4 (pc := 83) dX11_says_83 ?_
            refine pv_getI (pc := 85) dX11_says_85 fg_X11_138_3 rfl (by omega) fx4 ?_
            refine pv_goto (pc := 88) (tgt := 96) dX11_says_88 (by decide) ?_
            refine pv_iret (pc := 96) dX11_says_96 rfl rfl ?_
            have hu : x_un 0 k = true := (pv_b_n0 _).mp h70
            refine qX.same hX ?_
            unfold S_says w_sh
            rw [if_pos ⟨hs, g07⟩, if_neg (by rw [k1]; decide), if_neg (by rw [k1]; decide), if_pos (by rw [kk]; exact x_un_iff.mp hu)]
            first
              | (have f1 : k = 0 := (by first | exact h80 | exact Classical.not_not.mp h80); rw [if_pos f1, fx8]; done)
              | (have f1 : ¬ k = 0 := h80; rw [if_neg f1]; done)
          · refine pv_aload_0 (pc := 73) dX11_says_73 ?_
            refine pv_iconst (pc := 74) (v := 2) dX11_says_74 (by decide) ?_
            refine pv_callV1 (pc := 75) dX11_says_75 mgX11_refuse lv_X11_70_11 (by decide) (sx_16 hT) (by omega) (c_X11_refuse (k := 2) hT hR (by decide) (by unfold vp_in; decide)) rfl rfl (by decide) ?_
            refine pv_iret (pc := 78) dX11_says_78 rfl rfl ?_
            have hu : x_un 0 k = false := (pv_b_0 _).mp (by first | exact h70 | exact Classical.not_not.mp h70)
            refine qX.ref hX (by decide : 2 < 8) ?_
            unfold S_says w_sh
            rw [if_pos ⟨hs, g07⟩, if_neg (by rw [k1]; decide), if_neg (by rw [k1]; decide), if_neg (fun z => ?_)]
            rw [kk] at z
            rw [x_un_iff.mpr z] at hu
            exact absurd hu (by decide)
        · refine pv_aload_0 (pc := 17) dX11_says_17 ?_
          refine pv_iconst (pc := 18) (v := 1) dX11_says_18 (by decide) ?_
          refine pv_callV1 (pc := 19) dX11_says_19 mgX11_refuse lv_X11_70_11 (by decide) (sx_16 hT) (by omega) (c_X11_refuse (k := 1) hT hR (by decide) (by unfold vp_in; decide)) rfl rfl (by decide) ?_
          refine pv_iret (pc := 22) dX11_says_22 rfl rfl ?_
          have f1 := (pv_b_0 _).mp (by first | exact h14 | exact Classical.not_not.mp h14)
          refine qX.ref hX (by decide : 1 < 8) ?_; exact w_says_1 (fun q => i_k7n f1 q.2)
      · skip
        refine pv_aload_0 (pc := 0) dX11_says_0 ?_
        refine pv_iload_1 (pc := 1) dX11_says_1 ?_
        refine pv_callV1 (pc := 2) dX11_says_2 mgX11_shelfAt lv_X11_66_11 (by decide) (sx_16 hT) (by omega) (c_X11_shelfAt1 hT hR hin) rfl rfl (by decide) ?_
        refine pv_astore_3 (pc := 5) dX11_says_5 (by decide) rfl ?_
        refine pv_aload_3 (pc := 6) dX11_says_6 ?_
        refine pv_ifnull (pc := 7) dX11_says_7 ?_
        refine pv_iload_2 (pc := 10) dX11_says_10 ?_
        refine pv_callS1 (pc := 11) dX11_says_11 mgX11_isKind ls_X11_129 (by omega) (c_X11_isKind ) rfl rfl (by decide) ?_
        refine pv_if_ne (pc := 14) (tgt := 23) dX11_says_14 (by decide) (fun h14 => ?_) (fun h14 => ?_)
        · refine pv_aload_3 (pc := 23) dX11_says_23 ?_
          refine pv_callV1 (pc := 24) dX11_says_24 mgX8_isRow lv_X11_122_8 (by omega) (sx_sh hT hs8) (by omega) (c_X8_isRow hT hR hs8) rfl rfl (by decide) ?_
          refine pv_topv2 (y := 0) (by rw [k2]; decide) ?_
          refine pv_if_eq (pc := 27) (tgt := 36) dX11_says_27 (by decide) (fun _ => ?_) (fun q => absurd q (by decide))
          refine pv_aload_0 (pc := 36) dX11_says_36 ?_
          refine pv_aload_0 (pc := 37) dX11_says_37 ?_
          refine pv_getR (pc := 38) dX11_says_38 fg_X11_31_11 rfl (by decide) (sx_16 hT) (rx_16_4 hR) ?_
          refine pv_aload_3 (pc := 41) dX11_says_41 ?_
          refine pv_getI (pc := 42) dX11_says_42 fg_X11_126_8 rfl (by omega) (sx_sh hT hs8) ?_
          refine pv_topv2 (y := (J 9 s.toNatClampNeg)) k4 ?_
          refine pv_callV1 (pc := 45) dX11_says_45 mgX11_figureAt lv_X11_114_11 (by decide) (sx_16 hT) (by omega) (c_X11_figureAt1 hT hR (by decide) (sx_21 hT) (hF.nat hW).1 (by rw [xn]; exact hF.2) fx1) rfl rfl (by decide) ?_
          refine pv_astore_4 (pc := 48) dX11_says_48 (by decide) rfl ?_
          refine pv_aload_4 (pc := 50) dX11_says_50 ?_
          refine pv_ifnonnull (pc := 52) (tgt := 61) dX11_says_52 (by decide) ?_
          refine pv_aload_4 (pc := 61) dX11_says_61 ?_
          refine pv_getI (pc := 63) dX11_says_63 fg_X11_132_1 rfl (by omega) fx4 ?_
          refine pv_topv2 (y := 1) (fx5.trans kk) ?_
          have g07 := i_k07 ((pv_b_n0 _).mp h14)
          refine pv_iload_2 (pc := 66) dX11_says_66 ?_
          refine pv_callS1 (pc := 67) dX11_says_67 mgX11_isUnder ls_X11_135 (by omega) (c_un (by decide) g07 (by omega)) rfl rfl (by decide) ?_
          refine pv_if_ne (pc := 70) (tgt := 79) dX11_says_70 (by decide) (fun h70 => ?_) (fun h70 => ?_)
          · refine pv_iload_2 (pc := 79) dX11_says_79 ?_
            refine pv_if_ne (pc := 80) (tgt := 91) dX11_says_80 (by decide) (fun h80 => ?_) (fun h80 => ?_)
            · refine pv_aload_4 (pc := 91) dX11_says_91 ?_
              refine pv_callU1 (pc := 93) dX11_says_93 mgX1_saying lu_X11_141_1 (by omega) fx4 (by omega) (c_say_1 fx2 fx4 (by omega)) rfl rfl (by decide) ?_
              refine pv_iret (pc := 96) dX11_says_96 rfl rfl ?_
              have hu : x_un 1 k = true := (pv_b_n0 _).mp h70
              refine qX.same hX ?_
              unfold S_says w_sh
              rw [if_pos ⟨hs, g07⟩, if_neg (by rw [k1]; decide), if_neg (by rw [k1]; decide), if_pos (by rw [kk]; exact x_un_iff.mp hu)]
              first
                | (have f1 : k = 0 := (by first | exact h80 | exact Classical.not_not.mp h80); rw [if_pos f1, fx8]; done)
                | (have f1 : ¬ k = 0 := h80; rw [if_neg f1]; rw [kk]; rfl)
            · refine pv_aload_4 (pc := 83) dX11_says_83 ?_
              refine pv_getI (pc := 85) dX11_says_85 fg_X11_138_1 rfl (by omega) fx4 ?_
              refine pv_goto (pc := 88) (tgt := 96) dX11_says_88 (by decide) ?_
              refine pv_iret (pc := 96) dX11_says_96 rfl rfl ?_
              have hu : x_un 1 k = true := (pv_b_n0 _).mp h70
              refine qX.same hX ?_
              unfold S_says w_sh
              rw [if_pos ⟨hs, g07⟩, if_neg (by rw [k1]; decide), if_neg (by rw [k1]; decide), if_pos (by rw [kk]; exact x_un_iff.mp hu)]
              first
                | (have f1 : k = 0 := (by first | exact h80 | exact Classical.not_not.mp h80); rw [if_pos f1, fx8]; done)
                | (have f1 : ¬ k = 0 := h80; rw [if_neg f1]; rw [kk]; rfl)
          · refine pv_aload_0 (pc := 73) dX11_says_73 ?_
            refine pv_iconst (pc := 74) (v := 2) dX11_says_74 (by decide) ?_
            refine pv_callV1 (pc := 75) dX11_says_75 mgX11_refuse lv_X11_70_11 (by decide) (sx_16 hT) (by omega) (c_X11_refuse (k := 2) hT hR (by decide) (by unfold vp_in; decide)) rfl rfl (by decide) ?_
            refine pv_iret (pc := 78) dX11_says_78 rfl rfl ?_
            have hu : x_un 1 k = false := (pv_b_0 _).mp (by first | exact h70 | exact Classical.not_not.mp h70)
            refine qX.ref hX (by decide : 2 < 8) ?_
            unfold S_says w_sh
            rw [if_pos ⟨hs, g07⟩, if_neg (by rw [k1]; decide), if_neg (by rw [k1]; decide), if_neg (fun z => ?_)]
            rw [kk] at z
            rw [x_un_iff.mpr z] at hu
            exact absurd hu (by decide)
        · refine pv_aload_0 (pc := 17) dX11_says_17 ?_
          refine pv_iconst (pc := 18) (v := 1) dX11_says_18 (by decide) ?_
          refine pv_callV1 (pc := 19) dX11_says_19 mgX11_refuse lv_X11_70_11 (by decide) (sx_16 hT) (by omega) (c_X11_refuse (k := 1) hT hR (by decide) (by unfold vp_in; decide)) rfl rfl (by decide) ?_
          refine pv_iret (pc := 22) dX11_says_22 rfl rfl ?_
          have f1 := (pv_b_0 _).mp (by first | exact h14 | exact Classical.not_not.mp h14)
          refine qX.ref hX (by decide : 1 < 8) ?_; exact w_says_1 (fun q => i_k7n f1 q.2)
      · skip
        refine pv_aload_0 (pc := 0) dX11_says_0 ?_
        refine pv_iload_1 (pc := 1) dX11_says_1 ?_
        refine pv_callV1 (pc := 2) dX11_says_2 mgX11_shelfAt lv_X11_66_11 (by decide) (sx_16 hT) (by omega) (c_X11_shelfAt1 hT hR hin) rfl rfl (by decide) ?_
        refine pv_astore_3 (pc := 5) dX11_says_5 (by decide) rfl ?_
        refine pv_aload_3 (pc := 6) dX11_says_6 ?_
        refine pv_ifnull (pc := 7) dX11_says_7 ?_
        refine pv_iload_2 (pc := 10) dX11_says_10 ?_
        refine pv_callS1 (pc := 11) dX11_says_11 mgX11_isKind ls_X11_129 (by omega) (c_X11_isKind ) rfl rfl (by decide) ?_
        refine pv_if_ne (pc := 14) (tgt := 23) dX11_says_14 (by decide) (fun h14 => ?_) (fun h14 => ?_)
        · refine pv_aload_3 (pc := 23) dX11_says_23 ?_
          refine pv_callV1 (pc := 24) dX11_says_24 mgX8_isRow lv_X11_122_8 (by omega) (sx_sh hT hs8) (by omega) (c_X8_isRow hT hR hs8) rfl rfl (by decide) ?_
          refine pv_topv2 (y := 0) (by rw [k2]; decide) ?_
          refine pv_if_eq (pc := 27) (tgt := 36) dX11_says_27 (by decide) (fun _ => ?_) (fun q => absurd q (by decide))
          refine pv_aload_0 (pc := 36) dX11_says_36 ?_
          refine pv_aload_0 (pc := 37) dX11_says_37 ?_
          refine pv_getR (pc := 38) dX11_says_38 fg_X11_31_11 rfl (by decide) (sx_16 hT) (rx_16_4 hR) ?_
          refine pv_aload_3 (pc := 41) dX11_says_41 ?_
          refine pv_getI (pc := 42) dX11_says_42 fg_X11_126_8 rfl (by omega) (sx_sh hT hs8) ?_
          refine pv_topv2 (y := (J 9 s.toNatClampNeg)) k4 ?_
          refine pv_callV1 (pc := 45) dX11_says_45 mgX11_figureAt lv_X11_114_11 (by decide) (sx_16 hT) (by omega) (c_X11_figureAt1 hT hR (by decide) (sx_21 hT) (hF.nat hW).1 (by rw [xn]; exact hF.2) fx1) rfl rfl (by decide) ?_
          refine pv_astore_4 (pc := 48) dX11_says_48 (by decide) rfl ?_
          refine pv_aload_4 (pc := 50) dX11_says_50 ?_
          refine pv_ifnonnull (pc := 52) (tgt := 61) dX11_says_52 (by decide) ?_
          refine pv_aload_4 (pc := 61) dX11_says_61 ?_
          refine pv_getI (pc := 63) dX11_says_63 fg_X11_132_10 rfl (by omega) fx4 ?_
          refine pv_topv2 (y := 2) (fx5.trans kk) ?_
          have g07 := i_k07 ((pv_b_n0 _).mp h14)
          refine pv_iload_2 (pc := 66) dX11_says_66 ?_
          refine pv_callS1 (pc := 67) dX11_says_67 mgX11_isUnder ls_X11_135 (by omega) (c_un (by decide) g07 (by omega)) rfl rfl (by decide) ?_
          refine pv_if_ne (pc := 70) (tgt := 79) dX11_says_70 (by decide) (fun h70 => ?_) (fun h70 => ?_)
          · refine pv_iload_2 (pc := 79) dX11_says_79 ?_
            refine pv_if_ne (pc := 80) (tgt := 91) dX11_says_80 (by decide) (fun h80 => ?_) (fun h80 => ?_)
            · refine pv_aload_4 (pc := 91) dX11_says_91 ?_
              refine pv_callU1 (pc := 93) dX11_says_93 mgX1_saying lu_X11_141_10 (by omega) fx4 (by omega) (c_say_10 fx2 fx4 (by omega)) rfl rfl (by decide) ?_
              refine pv_iret (pc := 96) dX11_says_96 rfl rfl ?_
              have hu : x_un 2 k = true := (pv_b_n0 _).mp h70
              refine qX.same hX ?_
              unfold S_says w_sh
              rw [if_pos ⟨hs, g07⟩, if_neg (by rw [k1]; decide), if_neg (by rw [k1]; decide), if_pos (by rw [kk]; exact x_un_iff.mp hu)]
              first
                | (have f1 : k = 0 := (by first | exact h80 | exact Classical.not_not.mp h80); rw [if_pos f1, fx8]; done)
                | (have f1 : ¬ k = 0 := h80; rw [if_neg f1]; rw [kk]; rfl)
            · refine pv_aload_4 (pc := 83) dX11_says_83 ?_
              refine pv_getI (pc := 85) dX11_says_85 fg_X11_138_10 rfl (by omega) fx4 ?_
              refine pv_goto (pc := 88) (tgt := 96) dX11_says_88 (by decide) ?_
              refine pv_iret (pc := 96) dX11_says_96 rfl rfl ?_
              have hu : x_un 2 k = true := (pv_b_n0 _).mp h70
              refine qX.same hX ?_
              unfold S_says w_sh
              rw [if_pos ⟨hs, g07⟩, if_neg (by rw [k1]; decide), if_neg (by rw [k1]; decide), if_pos (by rw [kk]; exact x_un_iff.mp hu)]
              first
                | (have f1 : k = 0 := (by first | exact h80 | exact Classical.not_not.mp h80); rw [if_pos f1, fx8]; done)
                | (have f1 : ¬ k = 0 := h80; rw [if_neg f1]; rw [kk]; rfl)
          · refine pv_aload_0 (pc := 73) dX11_says_73 ?_
            refine pv_iconst (pc := 74) (v := 2) dX11_says_74 (by decide) ?_
            refine pv_callV1 (pc := 75) dX11_says_75 mgX11_refuse lv_X11_70_11 (by decide) (sx_16 hT) (by omega) (c_X11_refuse (k := 2) hT hR (by decide) (by unfold vp_in; decide)) rfl rfl (by decide) ?_
            refine pv_iret (pc := 78) dX11_says_78 rfl rfl ?_
            have hu : x_un 2 k = false := (pv_b_0 _).mp (by first | exact h70 | exact Classical.not_not.mp h70)
            refine qX.ref hX (by decide : 2 < 8) ?_
            unfold S_says w_sh
            rw [if_pos ⟨hs, g07⟩, if_neg (by rw [k1]; decide), if_neg (by rw [k1]; decide), if_neg (fun z => ?_)]
            rw [kk] at z
            rw [x_un_iff.mpr z] at hu
            exact absurd hu (by decide)
        · refine pv_aload_0 (pc := 17) dX11_says_17 ?_
          refine pv_iconst (pc := 18) (v := 1) dX11_says_18 (by decide) ?_
          refine pv_callV1 (pc := 19) dX11_says_19 mgX11_refuse lv_X11_70_11 (by decide) (sx_16 hT) (by omega) (c_X11_refuse (k := 1) hT hR (by decide) (by unfold vp_in; decide)) rfl rfl (by decide) ?_
          refine pv_iret (pc := 22) dX11_says_22 rfl rfl ?_
          have f1 := (pv_b_0 _).mp (by first | exact h14 | exact Classical.not_not.mp h14)
          refine qX.ref hX (by decide : 1 < 8) ?_; exact w_says_1 (fun q => i_k7n f1 q.2)
      · skip
        refine pv_aload_0 (pc := 0) dX11_says_0 ?_
        refine pv_iload_1 (pc := 1) dX11_says_1 ?_
        refine pv_callV1 (pc := 2) dX11_says_2 mgX11_shelfAt lv_X11_66_11 (by decide) (sx_16 hT) (by omega) (c_X11_shelfAt1 hT hR hin) rfl rfl (by decide) ?_
        refine pv_astore_3 (pc := 5) dX11_says_5 (by decide) rfl ?_
        refine pv_aload_3 (pc := 6) dX11_says_6 ?_
        refine pv_ifnull (pc := 7) dX11_says_7 ?_
        refine pv_iload_2 (pc := 10) dX11_says_10 ?_
        refine pv_callS1 (pc := 11) dX11_says_11 mgX11_isKind ls_X11_129 (by omega) (c_X11_isKind ) rfl rfl (by decide) ?_
        refine pv_if_ne (pc := 14) (tgt := 23) dX11_says_14 (by decide) (fun h14 => ?_) (fun h14 => ?_)
        · refine pv_aload_3 (pc := 23) dX11_says_23 ?_
          refine pv_callV1 (pc := 24) dX11_says_24 mgX8_isRow lv_X11_122_8 (by omega) (sx_sh hT hs8) (by omega) (c_X8_isRow hT hR hs8) rfl rfl (by decide) ?_
          refine pv_topv2 (y := 0) (by rw [k2]; decide) ?_
          refine pv_if_eq (pc := 27) (tgt := 36) dX11_says_27 (by decide) (fun _ => ?_) (fun q => absurd q (by decide))
          refine pv_aload_0 (pc := 36) dX11_says_36 ?_
          refine pv_aload_0 (pc := 37) dX11_says_37 ?_
          refine pv_getR (pc := 38) dX11_says_38 fg_X11_31_11 rfl (by decide) (sx_16 hT) (rx_16_4 hR) ?_
          refine pv_aload_3 (pc := 41) dX11_says_41 ?_
          refine pv_getI (pc := 42) dX11_says_42 fg_X11_126_8 rfl (by omega) (sx_sh hT hs8) ?_
          refine pv_topv2 (y := (J 9 s.toNatClampNeg)) k4 ?_
          refine pv_callV1 (pc := 45) dX11_says_45 mgX11_figureAt lv_X11_114_11 (by decide) (sx_16 hT) (by omega) (c_X11_figureAt1 hT hR (by decide) (sx_21 hT) (hF.nat hW).1 (by rw [xn]; exact hF.2) fx1) rfl rfl (by decide) ?_
          refine pv_astore_4 (pc := 48) dX11_says_48 (by decide) rfl ?_
          refine pv_aload_4 (pc := 50) dX11_says_50 ?_
          refine pv_ifnonnull (pc := 52) (tgt := 61) dX11_says_52 (by decide) ?_
          refine pv_aload_4 (pc := 61) dX11_says_61 ?_
          refine pv_getI (pc := 63) dX11_says_63 fg_X11_132_5 rfl (by omega) fx4 ?_
          refine pv_topv2 (y := 3) (fx5.trans kk) ?_
          have g07 := i_k07 ((pv_b_n0 _).mp h14)
          refine pv_iload_2 (pc := 66) dX11_says_66 ?_
          refine pv_callS1 (pc := 67) dX11_says_67 mgX11_isUnder ls_X11_135 (by omega) (c_un (by decide) g07 (by omega)) rfl rfl (by decide) ?_
          refine pv_if_ne (pc := 70) (tgt := 79) dX11_says_70 (by decide) (fun h70 => ?_) (fun h70 => ?_)
          · refine pv_iload_2 (pc := 79) dX11_says_79 ?_
            refine pv_if_ne (pc := 80) (tgt := 91) dX11_says_80 (by decide) (fun h80 => ?_) (fun h80 => ?_)
            · refine pv_aload_4 (pc := 91) dX11_says_91 ?_
              refine pv_callU1 (pc := 93) dX11_says_93 mgX1_saying lu_X11_141_5 (by omega) fx4 (by omega) (c_say_5 fx2 fx4 (by rw [fx7]; exact hA2.1) (by omega)) rfl rfl (by decide) ?_
              refine pv_iret (pc := 96) dX11_says_96 rfl rfl ?_
              have hu : x_un 3 k = true := (pv_b_n0 _).mp h70
              refine qX.same hX ?_
              unfold S_says w_sh
              rw [if_pos ⟨hs, g07⟩, if_neg (by rw [k1]; decide), if_neg (by rw [k1]; decide), if_pos (by rw [kk]; exact x_un_iff.mp hu)]
              first
                | (have f1 : k = 0 := (by first | exact h80 | exact Classical.not_not.mp h80); rw [if_pos f1, fx8]; done)
                | (have f1 : ¬ k = 0 := h80; rw [if_neg f1]; rw [kk, fx7]; rfl)
            · refine pv_aload_4 (pc := 83) dX11_says_83 ?_
              refine pv_getI (pc := 85) dX11_says_85 fg_X11_138_5 rfl (by omega) fx4 ?_
              refine pv_goto (pc := 88) (tgt := 96) dX11_says_88 (by decide) ?_
              refine pv_iret (pc := 96) dX11_says_96 rfl rfl ?_
              have hu : x_un 3 k = true := (pv_b_n0 _).mp h70
              refine qX.same hX ?_
              unfold S_says w_sh
              rw [if_pos ⟨hs, g07⟩, if_neg (by rw [k1]; decide), if_neg (by rw [k1]; decide), if_pos (by rw [kk]; exact x_un_iff.mp hu)]
              first
                | (have f1 : k = 0 := (by first | exact h80 | exact Classical.not_not.mp h80); rw [if_pos f1, fx8]; done)
                | (have f1 : ¬ k = 0 := h80; rw [if_neg f1]; rw [kk, fx7]; rfl)
          · refine pv_aload_0 (pc := 73) dX11_says_73 ?_
            refine pv_iconst (pc := 74) (v := 2) dX11_says_74 (by decide) ?_
            refine pv_callV1 (pc := 75) dX11_says_75 mgX11_refuse lv_X11_70_11 (by decide) (sx_16 hT) (by omega) (c_X11_refuse (k := 2) hT hR (by decide) (by unfold vp_in; decide)) rfl rfl (by decide) ?_
            refine pv_iret (pc := 78) dX11_says_78 rfl rfl ?_
            have hu : x_un 3 k = false := (pv_b_0 _).mp (by first | exact h70 | exact Classical.not_not.mp h70)
            refine qX.ref hX (by decide : 2 < 8) ?_
            unfold S_says w_sh
            rw [if_pos ⟨hs, g07⟩, if_neg (by rw [k1]; decide), if_neg (by rw [k1]; decide), if_neg (fun z => ?_)]
            rw [kk] at z
            rw [x_un_iff.mpr z] at hu
            exact absurd hu (by decide)
        · refine pv_aload_0 (pc := 17) dX11_says_17 ?_
          refine pv_iconst (pc := 18) (v := 1) dX11_says_18 (by decide) ?_
          refine pv_callV1 (pc := 19) dX11_says_19 mgX11_refuse lv_X11_70_11 (by decide) (sx_16 hT) (by omega) (c_X11_refuse (k := 1) hT hR (by decide) (by unfold vp_in; decide)) rfl rfl (by decide) ?_
          refine pv_iret (pc := 22) dX11_says_22 rfl rfl ?_
          have f1 := (pv_b_0 _).mp (by first | exact h14 | exact Classical.not_not.mp h14)
          refine qX.ref hX (by decide : 1 < 8) ?_; exact w_says_1 (fun q => i_k7n f1 q.2)
      · skip
        refine pv_aload_0 (pc := 0) dX11_says_0 ?_
        refine pv_iload_1 (pc := 1) dX11_says_1 ?_
        refine pv_callV1 (pc := 2) dX11_says_2 mgX11_shelfAt lv_X11_66_11 (by decide) (sx_16 hT) (by omega) (c_X11_shelfAt1 hT hR hin) rfl rfl (by decide) ?_
        refine pv_astore_3 (pc := 5) dX11_says_5 (by decide) rfl ?_
        refine pv_aload_3 (pc := 6) dX11_says_6 ?_
        refine pv_ifnull (pc := 7) dX11_says_7 ?_
        refine pv_iload_2 (pc := 10) dX11_says_10 ?_
        refine pv_callS1 (pc := 11) dX11_says_11 mgX11_isKind ls_X11_129 (by omega) (c_X11_isKind ) rfl rfl (by decide) ?_
        refine pv_if_ne (pc := 14) (tgt := 23) dX11_says_14 (by decide) (fun h14 => ?_) (fun h14 => ?_)
        · refine pv_aload_3 (pc := 23) dX11_says_23 ?_
          refine pv_callV1 (pc := 24) dX11_says_24 mgX8_isRow lv_X11_122_8 (by omega) (sx_sh hT hs8) (by omega) (c_X8_isRow hT hR hs8) rfl rfl (by decide) ?_
          refine pv_topv2 (y := 0) (by rw [k2]; decide) ?_
          refine pv_if_eq (pc := 27) (tgt := 36) dX11_says_27 (by decide) (fun _ => ?_) (fun q => absurd q (by decide))
          refine pv_aload_0 (pc := 36) dX11_says_36 ?_
          refine pv_aload_0 (pc := 37) dX11_says_37 ?_
          refine pv_getR (pc := 38) dX11_says_38 fg_X11_31_11 rfl (by decide) (sx_16 hT) (rx_16_4 hR) ?_
          refine pv_aload_3 (pc := 41) dX11_says_41 ?_
          refine pv_getI (pc := 42) dX11_says_42 fg_X11_126_8 rfl (by omega) (sx_sh hT hs8) ?_
          refine pv_topv2 (y := (J 9 s.toNatClampNeg)) k4 ?_
          refine pv_callV1 (pc := 45) dX11_says_45 mgX11_figureAt lv_X11_114_11 (by decide) (sx_16 hT) (by omega) (c_X11_figureAt1 hT hR (by decide) (sx_21 hT) (hF.nat hW).1 (by rw [xn]; exact hF.2) fx1) rfl rfl (by decide) ?_
          refine pv_astore_4 (pc := 48) dX11_says_48 (by decide) rfl ?_
          refine pv_aload_4 (pc := 50) dX11_says_50 ?_
          refine pv_ifnonnull (pc := 52) (tgt := 61) dX11_says_52 (by decide) ?_
          refine pv_aload_4 (pc := 61) dX11_says_61 ?_
          refine pv_getI (pc := 63) dX11_says_63 fg_X11_132_9 rfl (by omega) fx4 ?_
          refine pv_topv2 (y := 4) (fx5.trans kk) ?_
          have g07 := i_k07 ((pv_b_n0 _).mp h14)
          refine pv_iload_2 (pc := 66) dX11_says_66 ?_
          refine pv_callS1 (pc := 67) dX11_says_67 mgX11_isUnder ls_X11_135 (by omega) (c_un (by decide) g07 (by omega)) rfl rfl (by decide) ?_
          refine pv_if_ne (pc := 70) (tgt := 79) dX11_says_70 (by decide) (fun h70 => ?_) (fun h70 => ?_)
          · refine pv_iload_2 (pc := 79) dX11_says_79 ?_
            refine pv_if_ne (pc := 80) (tgt := 91) dX11_says_80 (by decide) (fun h80 => ?_) (fun h80 => ?_)
            · refine pv_aload_4 (pc := 91) dX11_says_91 ?_
              refine pv_callU1 (pc := 93) dX11_says_93 mgX9_saying lu_X11_141_9 (by omega) fx4 (by omega) (c_say_9 fx2 fx4 (by omega)) rfl rfl (by decide) ?_
              refine pv_iret (pc := 96) dX11_says_96 rfl rfl ?_
              have hu : x_un 4 k = true := (pv_b_n0 _).mp h70
              refine qX.same hX ?_
              unfold S_says w_sh
              rw [if_pos ⟨hs, g07⟩, if_neg (by rw [k1]; decide), if_neg (by rw [k1]; decide), if_pos (by rw [kk]; exact x_un_iff.mp hu)]
              first
                | (have f1 : k = 0 := (by first | exact h80 | exact Classical.not_not.mp h80); rw [if_pos f1, fx8]; done)
                | (have f1 : ¬ k = 0 := h80; rw [if_neg f1]; rw [kk]; rfl)
            · refine pv_aload_4 (pc := 83) dX11_says_83 ?_
              refine pv_getI (pc := 85) dX11_says_85 fg_X11_138_9 rfl (by omega) fx4 ?_
              refine pv_goto (pc := 88) (tgt := 96) dX11_says_88 (by decide) ?_
              refine pv_iret (pc := 96) dX11_says_96 rfl rfl ?_
              have hu : x_un 4 k = true := (pv_b_n0 _).mp h70
              refine qX.same hX ?_
              unfold S_says w_sh
              rw [if_pos ⟨hs, g07⟩, if_neg (by rw [k1]; decide), if_neg (by rw [k1]; decide), if_pos (by rw [kk]; exact x_un_iff.mp hu)]
              first
                | (have f1 : k = 0 := (by first | exact h80 | exact Classical.not_not.mp h80); rw [if_pos f1, fx8]; done)
                | (have f1 : ¬ k = 0 := h80; rw [if_neg f1]; rw [kk]; rfl)
          · refine pv_aload_0 (pc := 73) dX11_says_73 ?_
            refine pv_iconst (pc := 74) (v := 2) dX11_says_74 (by decide) ?_
            refine pv_callV1 (pc := 75) dX11_says_75 mgX11_refuse lv_X11_70_11 (by decide) (sx_16 hT) (by omega) (c_X11_refuse (k := 2) hT hR (by decide) (by unfold vp_in; decide)) rfl rfl (by decide) ?_
            refine pv_iret (pc := 78) dX11_says_78 rfl rfl ?_
            have hu : x_un 4 k = false := (pv_b_0 _).mp (by first | exact h70 | exact Classical.not_not.mp h70)
            refine qX.ref hX (by decide : 2 < 8) ?_
            unfold S_says w_sh
            rw [if_pos ⟨hs, g07⟩, if_neg (by rw [k1]; decide), if_neg (by rw [k1]; decide), if_neg (fun z => ?_)]
            rw [kk] at z
            rw [x_un_iff.mpr z] at hu
            exact absurd hu (by decide)
        · refine pv_aload_0 (pc := 17) dX11_says_17 ?_
          refine pv_iconst (pc := 18) (v := 1) dX11_says_18 (by decide) ?_
          refine pv_callV1 (pc := 19) dX11_says_19 mgX11_refuse lv_X11_70_11 (by decide) (sx_16 hT) (by omega) (c_X11_refuse (k := 1) hT hR (by decide) (by unfold vp_in; decide)) rfl rfl (by decide) ?_
          refine pv_iret (pc := 22) dX11_says_22 rfl rfl ?_
          have f1 := (pv_b_0 _).mp (by first | exact h14 | exact Classical.not_not.mp h14)
          refine qX.ref hX (by decide : 1 < 8) ?_; exact w_says_1 (fun q => i_k7n f1 q.2)
      · skip
        refine pv_aload_0 (pc := 0) dX11_says_0 ?_
        refine pv_iload_1 (pc := 1) dX11_says_1 ?_
        refine pv_callV1 (pc := 2) dX11_says_2 mgX11_shelfAt lv_X11_66_11 (by decide) (sx_16 hT) (by omega) (c_X11_shelfAt1 hT hR hin) rfl rfl (by decide) ?_
        refine pv_astore_3 (pc := 5) dX11_says_5 (by decide) rfl ?_
        refine pv_aload_3 (pc := 6) dX11_says_6 ?_
        refine pv_ifnull (pc := 7) dX11_says_7 ?_
        refine pv_iload_2 (pc := 10) dX11_says_10 ?_
        refine pv_callS1 (pc := 11) dX11_says_11 mgX11_isKind ls_X11_129 (by omega) (c_X11_isKind ) rfl rfl (by decide) ?_
        refine pv_if_ne (pc := 14) (tgt := 23) dX11_says_14 (by decide) (fun h14 => ?_) (fun h14 => ?_)
        · refine pv_aload_3 (pc := 23) dX11_says_23 ?_
          refine pv_callV1 (pc := 24) dX11_says_24 mgX8_isRow lv_X11_122_8 (by omega) (sx_sh hT hs8) (by omega) (c_X8_isRow hT hR hs8) rfl rfl (by decide) ?_
          refine pv_topv2 (y := 0) (by rw [k2]; decide) ?_
          refine pv_if_eq (pc := 27) (tgt := 36) dX11_says_27 (by decide) (fun _ => ?_) (fun q => absurd q (by decide))
          refine pv_aload_0 (pc := 36) dX11_says_36 ?_
          refine pv_aload_0 (pc := 37) dX11_says_37 ?_
          refine pv_getR (pc := 38) dX11_says_38 fg_X11_31_11 rfl (by decide) (sx_16 hT) (rx_16_4 hR) ?_
          refine pv_aload_3 (pc := 41) dX11_says_41 ?_
          refine pv_getI (pc := 42) dX11_says_42 fg_X11_126_8 rfl (by omega) (sx_sh hT hs8) ?_
          refine pv_topv2 (y := (J 9 s.toNatClampNeg)) k4 ?_
          refine pv_callV1 (pc := 45) dX11_says_45 mgX11_figureAt lv_X11_114_11 (by decide) (sx_16 hT) (by omega) (c_X11_figureAt1 hT hR (by decide) (sx_21 hT) (hF.nat hW).1 (by rw [xn]; exact hF.2) fx1) rfl rfl (by decide) ?_
          refine pv_astore_4 (pc := 48) dX11_says_48 (by decide) rfl ?_
          refine pv_aload_4 (pc := 50) dX11_says_50 ?_
          refine pv_ifnonnull (pc := 52) (tgt := 61) dX11_says_52 (by decide) ?_
          refine pv_aload_4 (pc := 61) dX11_says_61 ?_
          refine pv_getI (pc := 63) dX11_says_63 fg_X11_132_0 rfl (by omega) fx4 ?_
          refine pv_topv2 (y := 5) (fx5.trans kk) ?_
          have g07 := i_k07 ((pv_b_n0 _).mp h14)
          refine pv_iload_2 (pc := 66) dX11_says_66 ?_
          refine pv_callS1 (pc := 67) dX11_says_67 mgX11_isUnder ls_X11_135 (by omega) (c_un (by decide) g07 (by omega)) rfl rfl (by decide) ?_
          refine pv_if_ne (pc := 70) (tgt := 79) dX11_says_70 (by decide) (fun h70 => ?_) (fun h70 => ?_)
          · refine pv_iload_2 (pc := 79) dX11_says_79 ?_
            refine pv_if_ne (pc := 80) (tgt := 91) dX11_says_80 (by decide) (fun h80 => ?_) (fun h80 => ?_)
            · refine pv_aload_4 (pc := 91) dX11_says_91 ?_
              refine pv_callU1 (pc := 93) dX11_says_93 mgX9_saying lu_X11_141_0 (by omega) fx4 (by omega) (c_say_0 fx2 fx4 (by omega)) rfl rfl (by decide) ?_
              refine pv_iret (pc := 96) dX11_says_96 rfl rfl ?_
              have hu : x_un 5 k = true := (pv_b_n0 _).mp h70
              refine qX.same hX ?_
              unfold S_says w_sh
              rw [if_pos ⟨hs, g07⟩, if_neg (by rw [k1]; decide), if_neg (by rw [k1]; decide), if_pos (by rw [kk]; exact x_un_iff.mp hu)]
              first
                | (have f1 : k = 0 := (by first | exact h80 | exact Classical.not_not.mp h80); rw [if_pos f1, fx8]; done)
                | (have f1 : ¬ k = 0 := h80; rw [if_neg f1]; rw [kk]; rfl)
            · refine pv_aload_4 (pc := 83) dX11_says_83 ?_
              refine pv_getI (pc := 85) dX11_says_85 fg_X11_138_0 rfl (by omega) fx4 ?_
              refine pv_goto (pc := 88) (tgt := 96) dX11_says_88 (by decide) ?_
              refine pv_iret (pc := 96) dX11_says_96 rfl rfl ?_
              have hu : x_un 5 k = true := (pv_b_n0 _).mp h70
              refine qX.same hX ?_
              unfold S_says w_sh
              rw [if_pos ⟨hs, g07⟩, if_neg (by rw [k1]; decide), if_neg (by rw [k1]; decide), if_pos (by rw [kk]; exact x_un_iff.mp hu)]
              first
                | (have f1 : k = 0 := (by first | exact h80 | exact Classical.not_not.mp h80); rw [if_pos f1, fx8]; done)
                | (have f1 : ¬ k = 0 := h80; rw [if_neg f1]; rw [kk]; rfl)
          · refine pv_aload_0 (pc := 73) dX11_says_73 ?_
            refine pv_iconst (pc := 74) (v := 2) dX11_says_74 (by decide) ?_
            refine pv_callV1 (pc := 75) dX11_says_75 mgX11_refuse lv_X11_70_11 (by decide) (sx_16 hT) (by omega) (c_X11_refuse (k := 2) hT hR (by decide) (by unfold vp_in; decide)) rfl rfl (by decide) ?_
            refine pv_iret (pc := 78) dX11_says_78 rfl rfl ?_
            have hu : x_un 5 k = false := (pv_b_0 _).mp (by first | exact h70 | exact Classical.not_not.mp h70)
            refine qX.ref hX (by decide : 2 < 8) ?_
            unfold S_says w_sh
            rw [if_pos ⟨hs, g07⟩, if_neg (by rw [k1]; decide), if_neg (by rw [k1]; decide), if_neg (fun z => ?_)]
            rw [kk] at z
            rw [x_un_iff.mpr z] at hu
            exact absurd hu (by decide)
        · refine pv_aload_0 (pc := 17) dX11_says_17 ?_
          refine pv_iconst (pc := 18) (v := 1) dX11_says_18 (by decide) ?_
          refine pv_callV1 (pc := 19) dX11_says_19 mgX11_refuse lv_X11_70_11 (by decide) (sx_16 hT) (by omega) (c_X11_refuse (k := 1) hT hR (by decide) (by unfold vp_in; decide)) rfl rfl (by decide) ?_
          refine pv_iret (pc := 22) dX11_says_22 rfl rfl ?_
          have f1 := (pv_b_0 _).mp (by first | exact h14 | exact Classical.not_not.mp h14)
          refine qX.ref hX (by decide : 1 < 8) ?_; exact w_says_1 (fun q => i_k7n f1 q.2)
      · skip
        refine pv_aload_0 (pc := 0) dX11_says_0 ?_
        refine pv_iload_1 (pc := 1) dX11_says_1 ?_
        refine pv_callV1 (pc := 2) dX11_says_2 mgX11_shelfAt lv_X11_66_11 (by decide) (sx_16 hT) (by omega) (c_X11_shelfAt1 hT hR hin) rfl rfl (by decide) ?_
        refine pv_astore_3 (pc := 5) dX11_says_5 (by decide) rfl ?_
        refine pv_aload_3 (pc := 6) dX11_says_6 ?_
        refine pv_ifnull (pc := 7) dX11_says_7 ?_
        refine pv_iload_2 (pc := 10) dX11_says_10 ?_
        refine pv_callS1 (pc := 11) dX11_says_11 mgX11_isKind ls_X11_129 (by omega) (c_X11_isKind ) rfl rfl (by decide) ?_
        refine pv_if_ne (pc := 14) (tgt := 23) dX11_says_14 (by decide) (fun h14 => ?_) (fun h14 => ?_)
        · refine pv_aload_3 (pc := 23) dX11_says_23 ?_
          refine pv_callV1 (pc := 24) dX11_says_24 mgX8_isRow lv_X11_122_8 (by omega) (sx_sh hT hs8) (by omega) (c_X8_isRow hT hR hs8) rfl rfl (by decide) ?_
          refine pv_topv2 (y := 0) (by rw [k2]; decide) ?_
          refine pv_if_eq (pc := 27) (tgt := 36) dX11_says_27 (by decide) (fun _ => ?_) (fun q => absurd q (by decide))
          refine pv_aload_0 (pc := 36) dX11_says_36 ?_
          refine pv_aload_0 (pc := 37) dX11_says_37 ?_
          refine pv_getR (pc := 38) dX11_says_38 fg_X11_31_11 rfl (by decide) (sx_16 hT) (rx_16_4 hR) ?_
          refine pv_aload_3 (pc := 41) dX11_says_41 ?_
          refine pv_getI (pc := 42) dX11_says_42 fg_X11_126_8 rfl (by omega) (sx_sh hT hs8) ?_
          refine pv_topv2 (y := (J 9 s.toNatClampNeg)) k4 ?_
          refine pv_callV1 (pc := 45) dX11_says_45 mgX11_figureAt lv_X11_114_11 (by decide) (sx_16 hT) (by omega) (c_X11_figureAt1 hT hR (by decide) (sx_21 hT) (hF.nat hW).1 (by rw [xn]; exact hF.2) fx1) rfl rfl (by decide) ?_
          refine pv_astore_4 (pc := 48) dX11_says_48 (by decide) rfl ?_
          refine pv_aload_4 (pc := 50) dX11_says_50 ?_
          refine pv_ifnonnull (pc := 52) (tgt := 61) dX11_says_52 (by decide) ?_
          refine pv_aload_4 (pc := 61) dX11_says_61 ?_
          refine pv_getI (pc := 63) dX11_says_63 fg_X11_132_6 rfl (by omega) fx4 ?_
          refine pv_topv2 (y := 6) (fx5.trans kk) ?_
          have g07 := i_k07 ((pv_b_n0 _).mp h14)
          refine pv_iload_2 (pc := 66) dX11_says_66 ?_
          refine pv_callS1 (pc := 67) dX11_says_67 mgX11_isUnder ls_X11_135 (by omega) (c_un (by decide) g07 (by omega)) rfl rfl (by decide) ?_
          refine pv_if_ne (pc := 70) (tgt := 79) dX11_says_70 (by decide) (fun h70 => ?_) (fun h70 => ?_)
          · refine pv_iload_2 (pc := 79) dX11_says_79 ?_
            refine pv_if_ne (pc := 80) (tgt := 91) dX11_says_80 (by decide) (fun h80 => ?_) (fun h80 => ?_)
            · refine pv_aload_4 (pc := 91) dX11_says_91 ?_
              refine pv_callU1 (pc := 93) dX11_says_93 mgX9_saying lu_X11_141_6 (by omega) fx4 (by omega) (c_say_6 fx2 fx4 (by omega)) rfl rfl (by decide) ?_
              refine pv_iret (pc := 96) dX11_says_96 rfl rfl ?_
              have hu : x_un 6 k = true := (pv_b_n0 _).mp h70
              refine qX.same hX ?_
              unfold S_says w_sh
              rw [if_pos ⟨hs, g07⟩, if_neg (by rw [k1]; decide), if_neg (by rw [k1]; decide), if_pos (by rw [kk]; exact x_un_iff.mp hu)]
              first
                | (have f1 : k = 0 := (by first | exact h80 | exact Classical.not_not.mp h80); rw [if_pos f1, fx8]; done)
                | (have f1 : ¬ k = 0 := h80; rw [if_neg f1]; rw [kk, fx7, i_a34 hA2]; rfl)
            · refine pv_aload_4 (pc := 83) dX11_says_83 ?_
              refine pv_getI (pc := 85) dX11_says_85 fg_X11_138_6 rfl (by omega) fx4 ?_
              refine pv_goto (pc := 88) (tgt := 96) dX11_says_88 (by decide) ?_
              refine pv_iret (pc := 96) dX11_says_96 rfl rfl ?_
              have hu : x_un 6 k = true := (pv_b_n0 _).mp h70
              refine qX.same hX ?_
              unfold S_says w_sh
              rw [if_pos ⟨hs, g07⟩, if_neg (by rw [k1]; decide), if_neg (by rw [k1]; decide), if_pos (by rw [kk]; exact x_un_iff.mp hu)]
              first
                | (have f1 : k = 0 := (by first | exact h80 | exact Classical.not_not.mp h80); rw [if_pos f1, fx8]; done)
                | (have f1 : ¬ k = 0 := h80; rw [if_neg f1]; rw [kk, fx7, i_a34 hA2]; rfl)
          · refine pv_aload_0 (pc := 73) dX11_says_73 ?_
            refine pv_iconst (pc := 74) (v := 2) dX11_says_74 (by decide) ?_
            refine pv_callV1 (pc := 75) dX11_says_75 mgX11_refuse lv_X11_70_11 (by decide) (sx_16 hT) (by omega) (c_X11_refuse (k := 2) hT hR (by decide) (by unfold vp_in; decide)) rfl rfl (by decide) ?_
            refine pv_iret (pc := 78) dX11_says_78 rfl rfl ?_
            have hu : x_un 6 k = false := (pv_b_0 _).mp (by first | exact h70 | exact Classical.not_not.mp h70)
            refine qX.ref hX (by decide : 2 < 8) ?_
            unfold S_says w_sh
            rw [if_pos ⟨hs, g07⟩, if_neg (by rw [k1]; decide), if_neg (by rw [k1]; decide), if_neg (fun z => ?_)]
            rw [kk] at z
            rw [x_un_iff.mpr z] at hu
            exact absurd hu (by decide)
        · refine pv_aload_0 (pc := 17) dX11_says_17 ?_
          refine pv_iconst (pc := 18) (v := 1) dX11_says_18 (by decide) ?_
          refine pv_callV1 (pc := 19) dX11_says_19 mgX11_refuse lv_X11_70_11 (by decide) (sx_16 hT) (by omega) (c_X11_refuse (k := 1) hT hR (by decide) (by unfold vp_in; decide)) rfl rfl (by decide) ?_
          refine pv_iret (pc := 22) dX11_says_22 rfl rfl ?_
          have f1 := (pv_b_0 _).mp (by first | exact h14 | exact Classical.not_not.mp h14)
          refine qX.ref hX (by decide : 1 < 8) ?_; exact w_says_1 (fun q => i_k7n f1 q.2)
  · have hs0 : s_sh s = false := by simpa using hs
    refine pv_aload_0 (pc := 0) dX11_says_0 ?_
    refine pv_iload_1 (pc := 1) dX11_says_1 ?_
    refine pv_callV1 (pc := 2) dX11_says_2 mgX11_shelfAt lv_X11_66_11 (by decide) (sx_16 hT) (by omega) (c_X11_shelfAt0 hT hR hs0) rfl rfl (by decide) ?_
    refine pv_astoreN_3 (pc := 5) dX11_says_5 (by decide) rfl ?_
    refine pv_aloadN_3 (pc := 6) dX11_says_6 ?_
    refine pv_ifnullN (pc := 7) (tgt := 17) dX11_says_7 (by decide) ?_
    refine pv_aload_0 (pc := 17) dX11_says_17 ?_
    refine pv_iconst (pc := 18) (v := 1) dX11_says_18 (by decide) ?_
    refine pv_callV1 (pc := 19) dX11_says_19 mgX11_refuse lv_X11_70_11 (by decide) (sx_16 hT) (by omega) (c_X11_refuse (k := 1) hT hR (by decide) (by unfold vp_in; decide)) rfl rfl (by decide) ?_
    refine pv_iret (pc := 22) dX11_says_22 rfl rfl ?_
    refine qX.ref hX (by decide : 1 < 8) ?_; exact w_says_1 (fun q => by rw [hs0] at q; exact absurd q.1 (by decide))

