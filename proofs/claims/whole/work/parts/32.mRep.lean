/-! repeated -/
theorem w_led_y (J : pv_I) (K : pv_L) (s : Nat) : ∀ (m i : Nat) (x x1 y y1 : Int32) (p q : Int64) (c : Nat → Int32), (w_led J K s m i x p q c y).1 = (w_led J K s m i x1 p q c y1).1 ∧ (w_led J K s m i x p q c y).2.2.1 = (w_led J K s m i x1 p q c y1).2.2.1 ∧ (w_led J K s m i x p q c y).2.2.2.1 = (w_led J K s m i x1 p q c y1).2.2.2.1 ∧ (w_led J K s m i x p q c y).2.2.2.2.1 = (w_led J K s m i x1 p q c y1).2.2.2.2.1
  | 0, _, _, _, _, _, _, _, _ => ⟨rfl, rfl, rfl, rfl⟩
  | m + 1, i, x, x1, y, y1, p, q, c => by
    simp only [w_led]
    split
    · split
      · exact w_led_y J K s m (i + 1) _ _ _ _ _ _ _
      · exact ⟨rfl, rfl, rfl, rfl⟩
    · exact ⟨rfl, rfl, rfl, rfl⟩
/-- one time on, from a number and corners -/
def w_one (J : pv_I) (K : pv_L) (s n : Nat) (p q : Int64) (c : Nat → Int32) : LD := w_led J K s n 0 0 p q c 0
def w_rep (J : pv_I) (K : pv_L) (s n : Nat) : Nat → Int64 → Int64 → (Nat → Int32) → Bool × Int64 × Int64 × (Nat → Int32)
  | 0, p, q, c => (true, p, q, c)
  | m + 1, p, q, c => if (w_one J K s n p q c).1 = true then w_rep J K s n m (w_one J K s n p q c).2.2.1 (w_one J K s n p q c).2.2.2.1 (w_one J K s n p q c).2.2.2.2.1 else (false, p, q, c)
def w_figs (J : pv_I) (K : pv_L) (s n : Nat) : Prop := ∀ i, i < n → w_isF J (K (1 + s) i).toInt32


set_option maxRecDepth 100000 in
set_option maxHeartbeats 4000000 in
theorem l_rpA {G : pv_G} {d : Nat} {Q : pv_Q} {J : pv_I} {K : pv_L} {s n u x : Int32} {t : pv_T} {I : pv_I} {L : pv_L} {Rf : pv_R} (hT : sh_ok t) (hR : rf_ok Rf) (hW : WF J K) (hM : RM J K I L) (hs : vp_in s 8) (h0 : 0 ≤ n.toInt) (hn : n.toInt ≤ 160) (hd : 6 ≤ d) (hyes : w_figs J K s.toNatClampNeg n.toNatClampNeg → pv_V G mX12_repeated d 0 0 Q 0 0 94 [.ref 61, .int s, .int n, .int u, .int x, .int 0, .int n] [] t I L Rf) (hno : ¬ w_figs J K s.toNatClampNeg n.toNatClampNeg → Q (some (.long (-2000000000000 + (-6 : Int32).toInt64))) t (s_ref I 6) L Rf) : ∀ (m k : Nat), k + m = n.toNatClampNeg → (∀ i, i < k → w_isF J (K (1 + s.toNatClampNeg) i).toInt32) →
    pv_V G mX12_repeated d 0 0 Q 0 0 61 [.ref 61, .int s, .int n, .int u, .int x, .int 0, .int (Int32.ofNat k)] [] t I L Rf := by
  intro m
  induction m with
  | zero =>
    intro k hk hf
    have hnl := i_lit n
    have hul := i_lit u
    refine pv_iload_6 (pc := 61) dX12_repeated_61 ?_
    refine pv_iload_2 (pc := 63) dX12_repeated_63 ?_
    refine pv_icmp_ge (pc := 64) (tgt := 94) dX12_repeated_64 (by decide) (fun h64 => ?_) (fun h64 => absurd h64 (by rw [i_lt, i_of (by omega)]; omega))
    have hkn : Int32.ofNat k = n := by rw [← Int32.toInt_inj, i_of (by omega)]; omega
    rw [hkn]
    exact hyes (fun i hi => hf i (by omega))
  | succ m ih =>
    intro k hk hf
    have hnl := i_lit n
    have hul := i_lit u
    refine pv_iload_6 (pc := 61) dX12_repeated_61 ?_
    refine pv_iload_2 (pc := 63) dX12_repeated_63 ?_
    refine pv_icmp_ge (pc := 64) (tgt := 94) dX12_repeated_64 (by decide) (fun h64 => absurd h64 (by rw [i_lt, i_of (by omega)]; omega)) (fun h64 => ?_)
    refine pv_aload_0 (pc := 67) dX12_repeated_67 ?_
    refine pv_aload_0 (pc := 68) dX12_repeated_68 ?_
    refine pv_iload_1 (pc := 69) dX12_repeated_69 ?_
    refine pv_iload_6 (pc := 70) dX12_repeated_70 ?_
    refine pv_callV1 (pc := 72) dX12_repeated_72 mgX12_intAt lv_X12_242_12 (by decide) (sx_61 hT) (by omega) (c_X12_intAt hT hR hs (i_in (k := k) (by omega) (by decide))) rfl rfl (Nat.le_of_ble_eq_true rfl) ?_
    refine pv_topv2 (y := (K (1 + s.toNatClampNeg) k).toInt32) (by rw [i_nat (k := k) (by omega)]; exact congrArg Int64.toInt32 (hM.2.2.2.2.2.2.1 _ (pv_in_lt hs).2.2.1 k (by omega))) ?_
    refine pv_callV1 (pc := 75) dX12_repeated_75 mgX12_isFigure lv_X12_119_12 (by decide) (sx_61 hT) (by omega) (c_X12_isFigure hT) rfl rfl (by decide) ?_
    refine pv_if_ne (pc := 78) (tgt := 88) dX12_repeated_78 (by decide) (fun h78 => ?_) (fun h78 => ?_)
    · refine pv_iinc_6 (pc := 88) (v := _ + 1) dX12_repeated_88 rfl (by decide) rfl ?_
      refine pv_goto (pc := 91) (tgt := 61) dX12_repeated_91 (by decide) ?_
      rw [i_inc]
      exact ih (k + 1) (by omega) (fun i hi => by
        by_cases e : i = k
        · rw [e]; exact isF1 hM h78
        · exact hf i (by omega))
    · refine pv_aload_0 (pc := 81) dX12_repeated_81 ?_
      refine pv_bipush (pc := 82) (v := (-6)) dX12_repeated_82 (by decide) ?_
      refine pv_callV1 (pc := 84) dX12_repeated_84 mgX12_noLow lv_X12_226_12 (by decide) (sx_61 hT) (by omega) (c_X12_noLow (k := 6) hT hR (by decide) (by unfold vp_in; decide)) rfl rfl (by decide) ?_
      refine pv_lret (pc := 87) dX12_repeated_87 rfl ?_
      exact hno (fun g => isF0 hM h78 (g k (by omega)))

set_option maxRecDepth 100000 in
set_option maxHeartbeats 4000000 in
theorem l_rpB {G : pv_G} {d : Nat} {Q : pv_Q} {J : pv_I} {K : pv_L} {s n u x : Int32} {t : pv_T} {I : pv_I} {L : pv_L} {Rf : pv_R} (hT : sh_ok t) (hR : rf_ok Rf) (hW : WF J K) (hM : RM J K I L) (hs : vp_in s 8) (h0 : 0 ≤ n.toInt) (hn : n.toInt ≤ 160) (hd : 6 ≤ d) (hu : 0 ≤ u.toInt) (hyes : ∀ a y, (w_rep J K s.toNatClampNeg n.toNatClampNeg u.toNatClampNeg (K 0 0) (K 0 1) (J 4)).1 = true → pv_V G mX12_repeated d 0 0 Q 0 0 129 [.ref 61, .int s, .int n, .int u, .int x, .int 0, .int u] [] t (m_at (m_dn I a y) (w_rep J K s.toNatClampNeg n.toNatClampNeg u.toNatClampNeg (K 0 0) (K 0 1) (J 4)).2.2.2) (m_pq L (w_rep J K s.toNatClampNeg n.toNatClampNeg u.toNatClampNeg (K 0 0) (K 0 1) (J 4)).2.1 (w_rep J K s.toNatClampNeg n.toNatClampNeg u.toNatClampNeg (K 0 0) (K 0 1) (J 4)).2.2.1) Rf) (hno : ∀ a y p q c, (w_rep J K s.toNatClampNeg n.toNatClampNeg u.toNatClampNeg (K 0 0) (K 0 1) (J 4)).1 = false → Q (some (.long (-2000000000000 + (-7 : Int32).toInt64))) t (s_ref (m_at (m_dn I a y) c) 7) (m_pq L p q) Rf) : ∀ (m k : Nat) (a y : Int32) (p q : Int64) (c : Nat → Int32), k + m = u.toNatClampNeg → w_rep J K s.toNatClampNeg n.toNatClampNeg m p q c = (w_rep J K s.toNatClampNeg n.toNatClampNeg u.toNatClampNeg (K 0 0) (K 0 1) (J 4)) →
    pv_V G mX12_repeated d 0 0 Q 0 0 101 [.ref 61, .int s, .int n, .int u, .int x, .int 0, .int (Int32.ofNat k)] [] t (m_at (m_dn I a y) c) (m_pq L p q) Rf := by
  intro m
  induction m with
  | zero =>
    intro k a y p q c hk hr
    have hnl := i_lit n
    have hul := i_lit u
    have hub := Int32.toInt_lt u
    refine pv_iload_6 (pc := 101) dX12_repeated_101 ?_
    refine pv_iload_3 (pc := 103) dX12_repeated_103 ?_
    refine pv_icmp_ge (pc := 104) (tgt := 129) dX12_repeated_104 (by decide) (fun h104 => ?_) (fun h104 => absurd h104 (by rw [i_lt, i_of (by omega)]; omega))
    have hkn : Int32.ofNat k = u := by rw [← Int32.toInt_inj, i_of (by omega)]; omega
    rw [hkn]
    have e : (w_rep J K s.toNatClampNeg n.toNatClampNeg u.toNatClampNeg (K 0 0) (K 0 1) (J 4)) = (true, p, q, c) := hr.symm
    have g := hyes a y (by rw [e])
    rw [e] at g
    exact g
  | succ m ih =>
    intro k a y p q c hk hr
    have hnl := i_lit n
    have hul := i_lit u
    have hub := Int32.toInt_lt u
    refine pv_iload_6 (pc := 101) dX12_repeated_101 ?_
    refine pv_iload_3 (pc := 103) dX12_repeated_103 ?_
    refine pv_icmp_ge (pc := 104) (tgt := 129) dX12_repeated_104 (by decide) (fun h104 => absurd h104 (by rw [i_lt, i_of (by omega)]; omega)) (fun h104 => ?_)
    refine pv_aload_0 (pc := 107) dX12_repeated_107 ?_
    refine pv_iload_1 (pc := 108) dX12_repeated_108 ?_
    refine pv_iload_2 (pc := 109) dX12_repeated_109 ?_
    refine pv_callV1 (pc := 110) dX12_repeated_110 mgX12_led lv_X12_251_12 (by decide) (sx_61 hT) (by omega) (c_X12_led (x := a) (y := y) hT hR hW hM hs h0 hn (by omega)) rfl rfl (by decide) ?_
    refine pv_if_ne (pc := 113) (tgt := 123) dX12_repeated_113 (by decide) (fun h113 => ?_) (fun h113 => ?_)
    · refine pv_iinc_6 (pc := 123) (v := _ + 1) dX12_repeated_123 rfl (by decide) rfl ?_
      refine pv_goto (pc := 126) (tgt := 101) dX12_repeated_126 (by decide) ?_
      have f1 := (pv_b_n0 _).mp h113
      obtain ⟨y1, y2, y3, y4⟩ := w_led_y J K s.toNatClampNeg n.toNatClampNeg 0 a 0 y 0 p q c
      rw [y1] at f1
      rw [i_inc]
      refine ih (k + 1) _ _ _ _ _ (by omega) ?_
      rw [← hr, w_rep, if_pos (by unfold w_one; exact f1), y2, y3, y4]
      rfl
    · refine pv_aload_0 (pc := 116) dX12_repeated_116 ?_
      refine pv_bipush (pc := 117) (v := (-7)) dX12_repeated_117 (by decide) ?_
      refine pv_callV1 (pc := 119) dX12_repeated_119 mgX12_noLow lv_X12_226_12 (by decide) (sx_61 hT) (by omega) (c_X12_noLow (k := 7) hT hR (by decide) (by unfold vp_in; decide)) rfl rfl (by decide) ?_
      refine pv_lret (pc := 122) dX12_repeated_122 rfl ?_
      have f1 := (pv_b_0 _).mp h113
      rw [(w_led_y J K s.toNatClampNeg n.toNatClampNeg 0 a 0 y 0 p q c).1] at f1
      refine hno _ _ _ _ _ ?_
      rw [← hr, w_rep, if_neg (by unfold w_one; rw [f1]; decide)]

