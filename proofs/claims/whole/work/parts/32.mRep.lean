/-! repeated -/
theorem w_led_y (J : pv_I) (K : pv_L) (s : Nat) : ∀ (m i : Nat) (x x1 y y1 : Int32) (p q : Int64) (c : Nat → Int32), (w_led J K s m i x p q c y).1 = (w_led J K s m i x1 p q c y1).1 ∧ (w_led J K s m i x p q c y).2.2.1 = (w_led J K s m i x1 p q c y1).2.2.1 ∧ (w_led J K s m i x p q c y).2.2.2.1 = (w_led J K s m i x1 p q c y1).2.2.2.1 ∧ (w_led J K s m i x p q c y).2.2.2.2.1 = (w_led J K s m i x1 p q c y1).2.2.2.2.1
  | 0, _, _, _, _, _, _, _, _ => ⟨rfl, rfl, rfl, rfl⟩
  | m + 1, i, x, x1, y, y1, p, q, c => by
    simp only [w_led]
    split
    · split
      · exact w_led_y J K s m (i + 1) _ _ _ _ _ _ _
      · exact ⟨rfl, rfl, rfl, rfl⟩
    · exact ⟨rfl, rfl, rfl, rfl⟩
/-- one time on, from a number and corners -/
def w_one (J : pv_I) (K : pv_L) (s n : Nat) (p q : Int64) (c : Nat → Int32) : LD := w_led J K s n 0 0 p q c 0
def w_rep (J : pv_I) (K : pv_L) (s n : Nat) : Nat → Int64 → Int64 → (Nat → Int32) → Bool × Int64 × Int64 × (Nat → Int32)
  | 0, p, q, c => (true, p, q, c)
  | m + 1, p, q, c => if (w_one J K s n p q c).1 = true then w_rep J K s n m (w_one J K s n p q c).2.2.1 (w_one J K s n p q c).2.2.2.1 (w_one J K s n p q c).2.2.2.2.1 else (false, p, q, c)
def w_figs (J : pv_I) (K : pv_L) (s n : Nat) : Prop := ∀ i, i < n → w_isF J (K (1 + s) i).toInt32


set_option maxRecDepth 100000 in
set_option maxHeartbeats 4000000 in
theorem l_rpA {G : pv_G} {d : Nat} {Q : pv_Q} {J : pv_I} {K : pv_L} {s n u x : Int32} {t : pv_T} {I : pv_I} {L : pv_L} {Rf : pv_R} (hT : sh_ok t) (hR : rf_ok Rf) (hW : WF J K) (hM : RM J K I L) (hs : vp_in s 8) (h0 : 0 ≤ n.toInt) (hn : n.toInt ≤ 160) (hd : 6 ≤ d) (hyes : w_figs J K s.toNatClampNeg n.toNatClampNeg → pv_V G mX12_repeated d 0 0 Q 0 0 94 [.ref 61, .int s, .int n, .int u, .int x, .int 0, .int n] [] t I L Rf) (hno : ¬ w_figs J K s.toNatClampNeg n.toNatClampNeg → Q (some (.long (-2000000000000 + (-6 : Int32).toInt64))) t (s_ref I 6) L Rf) : ∀ (m k : Nat), k + m = n.toNatClampNeg → (∀ i, i < k → w_isF J (K (1 + s.toNatClampNeg) i).toInt32) →
    pv_V G mX12_repeated d 0 0 Q 0 0 61 [.ref 61, .int s, .int n, .int u, .int x, .int 0, .int (Int32.ofNat k)] [] t I L Rf := by
  intro m
  induction m with
  | zero =>
    intro k hk hf
    have hnl := i_lit n
    have hul := i_lit u
    refine pv_iload_6 (pc := 61) dX12_repeated_61 ?_
    refine pv_iload_2 (pc := 63) dX12_repeated_63 ?_
    refine pv_icmp_ge (pc := 64) (tgt := 94) dX12_repeated_64 (by decide) (fun h64 => ?_) (fun h64 => absurd h64 (by rw [i_lt, i_of (by omega)]; omega))
    have hkn : Int32.ofNat k = n := by rw [← Int32.toInt_inj, i_of (by omega)]; omega
    rw [hkn]
    exact hyes (fun i hi => hf i (by omega))
  | succ m ih =>
    intro k hk hf
    have hnl := i_lit n
    have hul := i_lit u
    refine pv_iload_6 (pc := 61) dX12_repeated_61 ?_
    refine pv_iload_2 (pc := 63) dX12_repeated_63 ?_
    refine pv_icmp_ge (pc := 64) (tgt := 94) dX12_repeated_64 (by decide) (fun h64 => absurd h64 (by rw [i_lt, i_of (by omega)]; omega)) (fun h64 => ?_)
    refine pv_aload_0 (pc := 67) dX12_repeated_67 ?_
    refine pv_aload_0 (pc := 68) dX12_repeated_68 ?_
    refine pv_iload_1 (pc := 69) dX12_repeated_69 ?_
    refine pv_iload_6 (pc := 70) dX12_repeated_70 ?_
    refine pv_callV1 (pc := 72) dX12_repeated_72 mgX12_intAt lv_X12_242_12 (by decide) (sx_61 hT) (by omega) (c_X12_intAt hT hR hs (i_in (k := k) (by omega) (by decide))) rfl rfl (Nat.le_of_ble_eq_true rfl) ?_
    refine pv_topv2 (y := (K (1 + s.toNatClampNeg) k).toInt32) (by rw [i_nat (k := k) (by omega)]; exact congrArg Int64.toInt32 (hM.2.2.2.2.2.2.1 _ (pv_in_lt hs).2.2.1 k (by omega))) ?_
    refine pv_callV1 (pc := 75) dX12_repeated_75 mgX12_isFigure lv_X12_119_12 (by decide) (sx_61 hT) (by omega) (c_X12_isFigure hT) rfl rfl (by decide) ?_
    refine pv_if_ne (pc := 78) (tgt := 88) dX12_repeated_78 (by decide) (fun h78 => ?_) (fun h78 => ?_)
    · refine pv_iinc_6 (pc := 88) (v := _ + 1) dX12_repeated_88 rfl (by decide) rfl ?_
      refine pv_goto (pc := 91) (tgt := 61) dX12_repeated_91 (by decide) ?_
      rw [i_inc]
      exact ih (k + 1) (by omega) (fun i hi => by
        by_cases e : i = k
        · rw [e]; exact isF1 hM h78
        · exact hf i (by omega))
    · refine pv_aload_0 (pc := 81) dX12_repeated_81 ?_
      refine pv_bipush (pc := 82) (v := (-6)) dX12_repeated_82 (by decide) ?_
      refine pv_callV1 (pc := 84) dX12_repeated_84 mgX12_noLow lv_X12_226_12 (by decide) (sx_61 hT) (by omega) (c_X12_noLow (k := 6) hT hR (by decide) (by unfold vp_in; decide)) rfl rfl (by decide) ?_
      refine pv_lret (pc := 87) dX12_repeated_87 rfl ?_
      exact hno (fun g => isF0 hM h78 (g k (by omega)))

set_option maxRecDepth 100000 in
set_option maxHeartbeats 4000000 in
theorem l_rpB {G : pv_G} {d : Nat} {Q : pv_Q} {J : pv_I} {K : pv_L} {s n u x : Int32} {t : pv_T} {I : pv_I} {L : pv_L} {Rf : pv_R} (hT : sh_ok t) (hR : rf_ok Rf) (hW : WF J K) (hM : RM J K I L) (hs : vp_in s 8) (h0 : 0 ≤ n.toInt) (hn : n.toInt ≤ 160) (hd : 6 ≤ d) (hu : 0 ≤ u.toInt) (hyes : ∀ a y, (w_rep J K s.toNatClampNeg n.toNatClampNeg u.toNatClampNeg (K 0 0) (K 0 1) (J 4)).1 = true → pv_V G mX12_repeated d 0 0 Q 0 0 129 [.ref 61, .int s, .int n, .int u, .int x, .int 0, .int u] [] t (m_at (m_dn I a y) (w_rep J K s.toNatClampNeg n.toNatClampNeg u.toNatClampNeg (K 0 0) (K 0 1) (J 4)).2.2.2) (m_pq L (w_rep J K s.toNatClampNeg n.toNatClampNeg u.toNatClampNeg (K 0 0) (K 0 1) (J 4)).2.1 (w_rep J K s.toNatClampNeg n.toNatClampNeg u.toNatClampNeg (K 0 0) (K 0 1) (J 4)).2.2.1) Rf) (hno : ∀ a y p q c, (w_rep J K s.toNatClampNeg n.toNatClampNeg u.toNatClampNeg (K 0 0) (K 0 1) (J 4)).1 = false → Q (some (.long (-2000000000000 + (-7 : Int32).toInt64))) t (s_ref (m_at (m_dn I a y) c) 7) (m_pq L p q) Rf) : ∀ (m k : Nat) (a y : Int32) (p q : Int64) (c : Nat → Int32), k + m = u.toNatClampNeg → w_rep J K s.toNatClampNeg n.toNatClampNeg m p q c = (w_rep J K s.toNatClampNeg n.toNatClampNeg u.toNatClampNeg (K 0 0) (K 0 1) (J 4)) →
    pv_V G mX12_repeated d 0 0 Q 0 0 101 [.ref 61, .int s, .int n, .int u, .int x, .int 0, .int (Int32.ofNat k)] [] t (m_at (m_dn I a y) c) (m_pq L p q) Rf := by
  intro m
  induction m with
  | zero =>
    intro k a y p q c hk hr
    have hnl := i_lit n
    have hul := i_lit u
    have hub := Int32.toInt_lt u
    refine pv_iload_6 (pc := 101) dX12_repeated_101 ?_
    refine pv_iload_3 (pc := 103) dX12_repeated_103 ?_
    refine pv_icmp_ge (pc := 104) (tgt := 129) dX12_repeated_104 (by decide) (fun h104 => ?_) (fun h104 => absurd h104 (by rw [i_lt, i_of (by omega)]; omega))
    have hkn : Int32.ofNat k = u := by rw [← Int32.toInt_inj, i_of (by omega)]; omega
    rw [hkn]
    have e : (w_rep J K s.toNatClampNeg n.toNatClampNeg u.toNatClampNeg (K 0 0) (K 0 1) (J 4)) = (true, p, q, c) := hr.symm
    have g := hyes a y (by rw [e])
    rw [e] at g
    exact g
  | succ m ih =>
    intro k a y p q c hk hr
    have hnl := i_lit n
    have hul := i_lit u
    have hub := Int32.toInt_lt u
    refine pv_iload_6 (pc := 101) dX12_repeated_101 ?_
    refine pv_iload_3 (pc := 103) dX12_repeated_103 ?_
    refine pv_icmp_ge (pc := 104) (tgt := 129) dX12_repeated_104 (by decide) (fun h104 => absurd h104 (by rw [i_lt, i_of (by omega)]; omega)) (fun h104 => ?_)
    refine pv_aload_0 (pc := 107) dX12_repeated_107 ?_
    refine pv_iload_1 (pc := 108) dX12_repeated_108 ?_
    refine pv_iload_2 (pc := 109) dX12_repeated_109 ?_
    refine pv_callV1 (pc := 110) dX12_repeated_110 mgX12_led lv_X12_251_12 (by decide) (sx_61 hT) (by omega) (c_X12_led (x := a) (y := y) hT hR hW hM hs h0 hn (by omega)) rfl rfl (by decide) ?_
    refine pv_if_ne (pc := 113) (tgt := 123) dX12_repeated_113 (by decide) (fun h113 => ?_) (fun h113 => ?_)
    · refine pv_iinc_6 (pc := 123) (v := _ + 1) dX12_repeated_123 rfl (by decide) rfl ?_
      refine pv_goto (pc := 126) (tgt := 101) dX12_repeated_126 (by decide) ?_
      have f1 := (pv_b_n0 _).mp h113
      obtain ⟨y1, y2, y3, y4⟩ := w_led_y J K s.toNatClampNeg n.toNatClampNeg 0 a 0 y 0 p q c
      rw [y1] at f1
      rw [i_inc]
      refine ih (k + 1) _ _ _ _ _ (by omega) ?_
      rw [← hr, w_rep, if_pos (by unfold w_one; exact f1), y2, y3, y4]
      rfl
    · refine pv_aload_0 (pc := 116) dX12_repeated_116 ?_
      refine pv_bipush (pc := 117) (v := (-7)) dX12_repeated_117 (by decide) ?_
      refine pv_callV1 (pc := 119) dX12_repeated_119 mgX12_noLow lv_X12_226_12 (by decide) (sx_61 hT) (by omega) (c_X12_noLow (k := 7) hT hR (by decide) (by unfold vp_in; decide)) rfl rfl (by decide) ?_
      refine pv_lret (pc := 122) dX12_repeated_122 rfl ?_
      have f1 := (pv_b_0 _).mp h113
      rw [(w_led_y J K s.toNatClampNeg n.toNatClampNeg 0 a 0 y 0 p q c).1] at f1
      refine hno _ _ _ _ _ ?_
      rw [← hr, w_rep, if_neg (by unfold w_one; rw [f1]; decide)]

def w_figB (J : pv_I) (K : pv_L) (s : Nat) : Nat → Bool
  | 0 => true
  | m + 1 => w_figB J K s m && decide (0 ≤ (K (1 + s) m).toInt32) && decide ((K (1 + s) m).toInt32 < J 0 0)
theorem w_figB_iff (J : pv_I) (K : pv_L) (s : Nat) : ∀ n, w_figB J K s n = true ↔ w_figs J K s n
  | 0 => ⟨fun _ i h => absurd h (Nat.not_lt_zero i), fun _ => rfl⟩
  | n + 1 => by
    have ih := w_figB_iff J K s n
    simp only [w_figB, Bool.and_eq_true, decide_eq_true_eq, ih]
    constructor
    · rintro ⟨⟨h1, h2⟩, h3⟩ i hi
      by_cases e : i = n
      · rw [e]; exact ⟨h2, h3⟩
      · exact h1 i (by omega)
    · intro h
      exact ⟨⟨fun i hi => h i (by omega), (h n (by omega)).1⟩, (h n (by omega)).2⟩
def S_repeated (J : pv_I) (K : pv_L) (s n u x : Int32) : SR := if w_bars J s n = 0 then (if x < 0 ∨ 2 < x then S_ref J K 5 (.long (-2000000000000 + (-5 : Int32).toInt64)) else if u < 0 ∨ 10000 < u then S_ref J K 6 (.long (-2000000000000 + (-6 : Int32).toInt64)) else if w_figB J K s.toNatClampNeg n.toNatClampNeg = true then
    (if (w_rep J K s.toNatClampNeg n.toNatClampNeg u.toNatClampNeg (K 0 0) (K 0 1) (J 4)).1 = true then (.long (if x = 0 then (w_rep J K s.toNatClampNeg n.toNatClampNeg u.toNatClampNeg (K 0 0) (K 0 1) (J 4)).2.1 else if x = 1 then (w_rep J K s.toNatClampNeg n.toNatClampNeg u.toNatClampNeg (K 0 0) (K 0 1) (J 4)).2.2.1 else ((w_rep J K s.toNatClampNeg n.toNatClampNeg u.toNatClampNeg (K 0 0) (K 0 1) (J 4)).2.2.2 0).toInt64), J, K)
     else S_ref J K 7 (.long (-2000000000000 + (-7 : Int32).toInt64)))
    else S_ref J K 6 (.long (-2000000000000 + (-6 : Int32).toInt64)))
  else S_ref J K (-(w_bars J s n)).toNatClampNeg (.long (-2000000000000 + (w_bars J s n).toInt64))
theorem k_lt7 : 7 < 8 := by decide
set_option maxRecDepth 100000 in
set_option maxHeartbeats 4000000 in
theorem c_X12_repeated {G : pv_G} {d : Nat} {J : pv_I} {K : pv_L} {s n u x : Int32} {t : pv_T} {I : pv_I} {L : pv_L} {Rf : pv_R} (hT : sh_ok t) (hR : rf_ok Rf) (hW : WF J K) (hM : RM J K I L) (hd : 6 ≤ d) : pv_Mt G mX12_repeated d 0 0 [.ref 61, .int s, .int n, .int u, .int x] t I L Rf (qM (S_repeated J K s n u x) t I L Rf) := by
  refine pv_mt mgX12_repeated.2.2.2.2.2 [.ref 61, .int s, .int n, .int u, .int x, .retAddr 0, .retAddr 0] rfl (Nat.le_of_ble_eq_true rfl) ?_
  obtain ⟨⟨m0, m1, m2, m3, m4, m5, m6, m7, m8⟩, mf, mst, mh, mr, mt, mc, mi⟩ := id hM
  refine pv_aload_0 (pc := 0) dX12_repeated_0 ?_
  refine pv_iload_1 (pc := 1) dX12_repeated_1 ?_
  refine pv_iload_2 (pc := 2) dX12_repeated_2 ?_
  refine pv_callV1 (pc := 3) dX12_repeated_3 mgX12_bars lv_X12_254_12 (by decide) (sx_61 hT) (by omega) (c_X12_bars hT hR (by omega)) rfl rfl (by decide) ?_
  rw [hM.bars]
  refine pv_istore_5 (pc := 6) dX12_repeated_6 (by decide) rfl ?_
  refine pv_iload_5 (pc := 8) dX12_repeated_8 ?_
  refine pv_if_ne (pc := 10) (tgt := 28) dX12_repeated_10 (by decide) (fun h10 => ?_) (fun h10 => ?_)
  · refine pv_iload_5 (pc := 28) dX12_repeated_28 ?_
    refine pv_if_eq (pc := 30) (tgt := 40) dX12_repeated_30 (by decide) (fun h30 => absurd h30 h10) (fun h30 => ?_)
    refine pv_aload_0 (pc := 33) dX12_repeated_33 ?_
    refine pv_iload_5 (pc := 34) dX12_repeated_34 ?_
    refine pv_callV1 (pc := 36) dX12_repeated_36 mgX12_noLow lv_X12_226_12 (by decide) (sx_61 hT) (by omega) (c_X12_noLow (k := (-(w_bars J s n)).toNatClampNeg) hT hR rfl (w_bars_in J s n)) rfl rfl (by decide) ?_
    refine pv_lret (pc := 39) dX12_repeated_39 rfl ?_
    first
      | (have h9 := h21
         refine qM.ref hM (k_lt5 : 5 < 8) ?_; unfold S_repeated; rw [if_pos h10, if_pos (Or.inr h21)]; done)
      | (have h9 := h15
         refine qM.ref hM (k_lt5 : 5 < 8) ?_; unfold S_repeated; rw [if_pos h10, if_pos (Or.inl h15)]; done)
      | (refine qM.ref hM (w_bars_n s n) ?_; unfold S_repeated; rw [if_neg h10]; done)
  · rw [h10]
    refine pv_iload_4 (pc := 13) dX12_repeated_13 ?_
    refine pv_if_lt (pc := 15) (tgt := 24) dX12_repeated_15 (by decide) (fun h15 => ?_) (fun h15 => ?_)
    · refine pv_bipush (pc := 24) (v := (-5)) dX12_repeated_24 (by decide) ?_
      refine pv_istore_5 (pc := 26) dX12_repeated_26 (by decide) rfl ?_
      refine pv_iload_5 (pc := 28) dX12_repeated_28 ?_
      refine pv_if_eq (pc := 30) (tgt := 40) dX12_repeated_30 (by decide) (fun q => absurd q (by decide)) (fun _ => ?_)
      refine pv_aload_0 (pc := 33) dX12_repeated_33 ?_
      refine pv_iload_5 (pc := 34) dX12_repeated_34 ?_
      refine pv_callV1 (pc := 36) dX12_repeated_36 mgX12_noLow lv_X12_226_12 (by decide) (sx_61 hT) (by omega) (c_X12_noLow (k := 5) hT hR (by decide) (by unfold vp_in; decide)) rfl rfl (by decide) ?_
      refine pv_lret (pc := 39) dX12_repeated_39 rfl ?_
      first
        | (have h9 := h21
           refine qM.ref hM (k_lt5 : 5 < 8) ?_; unfold S_repeated; rw [if_pos h10, if_pos (Or.inr h21)]; done)
        | (have h9 := h15
           refine qM.ref hM (k_lt5 : 5 < 8) ?_; unfold S_repeated; rw [if_pos h10, if_pos (Or.inl h15)]; done)
        | (refine qM.ref hM (w_bars_n s n) ?_; unfold S_repeated; rw [if_neg h10]; done)
    · refine pv_iload_4 (pc := 18) dX12_repeated_18 ?_
      refine pv_iconst (pc := 20) (v := 2) dX12_repeated_20 (by decide) ?_
      refine pv_icmp_le (pc := 21) (tgt := 28) dX12_repeated_21 (by decide) (fun h21 => ?_) (fun h21 => ?_)
      · refine pv_iload_5 (pc := 28) dX12_repeated_28 ?_
        refine pv_if_eq (pc := 30) (tgt := 40) dX12_repeated_30 (by decide) (fun _ => ?_) (fun q => absurd q (by decide))
        have hb := w_bars_0 hW h10
        refine pv_iload_3 (pc := 40) dX12_repeated_40 ?_
        refine pv_if_lt (pc := 41) (tgt := 51) dX12_repeated_41 (by decide) (fun h41 => ?_) (fun h41 => ?_)
        · refine pv_aload_0 (pc := 51) dX12_repeated_51 ?_
          refine pv_bipush (pc := 52) (v := (-6)) dX12_repeated_52 (by decide) ?_
          refine pv_callV1 (pc := 54) dX12_repeated_54 mgX12_noLow lv_X12_226_12 (by decide) (sx_61 hT) (by omega) (c_X12_noLow (k := 6) hT hR (by decide) (by unfold vp_in; decide)) rfl rfl (by decide) ?_
          refine pv_lret (pc := 57) dX12_repeated_57 rfl ?_
          refine qM.ref hM (k_lt6 : 6 < 8) ?_; unfold S_repeated
          first
            | (have f1 := h48; rw [if_pos h10, if_neg (fun r => r.elim h15 h21), if_pos (Or.inr f1)]; done)
            | (have f1 := h41; rw [if_pos h10, if_neg (fun r => r.elim h15 h21), if_pos (Or.inl f1)]; done)
        · refine pv_iload_3 (pc := 44) dX12_repeated_44 ?_
          refine pv_sipush (pc := 45) (v := 10000) dX12_repeated_45 (by decide) ?_
          refine pv_icmp_le (pc := 48) (tgt := 58) dX12_repeated_48 (by decide) (fun h48 => ?_) (fun h48 => ?_)
          · refine pv_iconst (pc := 58) (v := 0) dX12_repeated_58 (by decide) ?_
            refine pv_istore_6 (pc := 59) dX12_repeated_59 (by decide) rfl ?_
            refine l_rpA (u := u) (x := x) hT hR hW hM hb.1 hb.2.1 hb.2.2 (by omega) (fun hfig => ?_) (fun hfig => ?_) n.toNatClampNeg 0 (by omega) (fun i hi => absurd hi (Nat.not_lt_zero i))
            · skip
              refine pv_aload_0 (pc := 94) dX12_repeated_94 ?_
              refine pv_callV0 (pc := 95) dX12_repeated_95 mgX12_begins lv_X12_230_12 (by decide) (sx_61 hT) (by omega) (n_begins hT hR hM) rfl rfl (by decide) ?_
              refine pv_iconst (pc := 98) (v := 0) dX12_repeated_98 (by decide) ?_
              refine pv_istore_6 (pc := 99) dX12_repeated_99 (by decide) rfl ?_
              refine pv_memI (I := m_at (m_dn I (I 61 32) (I 61 33)) (J 4)) (by rw [m_dn_self]) ?_
              refine l_rpB (u := u) hT hR hW hM hb.1 hb.2.1 hb.2.2 (by omega) (by rw [i_lt, Int32.toInt_zero] at h41; omega) (fun a y hre => ?_) (fun a y p q c hre => ?_) u.toNatClampNeg 0 _ _ _ _ _ (by omega) rfl
              · skip
                refine pv_iload_4 (pc := 129) dX12_repeated_129 ?_
                refine pv_if_ne (pc := 131) (tgt := 141) dX12_repeated_131 (by decide) (fun h131 => ?_) (fun h131 => ?_)
                · refine pv_iload_4 (pc := 141) dX12_repeated_141 ?_
                  refine pv_iconst (pc := 143) (v := 1) dX12_repeated_143 (by decide) ?_
                  refine pv_icmp_ne (pc := 144) (tgt := 154) dX12_repeated_144 (by decide) (fun h144 => ?_) (fun h144 => ?_)
                  · refine pv_aload_0 (pc := 154) dX12_repeated_154 ?_
                    refine pv_getR (pc := 155) dX12_repeated_155 fg_X12_55_12 rfl (by decide) (sx_61 hT) (rx_61_20 hR) ?_
                    refine pv_iconst (pc := 158) (v := 0) dX12_repeated_158 (by decide) ?_
                    refine pv_ialoadj (pc := 159) dX12_repeated_159 (sx_73 hT) (j := 0) (by decide) (by unfold vp_in; decide) ?_
                    refine pv_i2l (pc := 160) dX12_repeated_160 ?_
                    refine pv_lret (pc := 161) dX12_repeated_161 rfl ?_
                    refine qM.scr hM ((m_dn_k I L a y).at _ |>.pq _ _) ?_
                    unfold S_repeated
                    rw [if_pos h10, if_neg (fun r => r.elim h15 h21), if_neg (fun r => r.elim h41 h48), if_pos ((w_figB_iff _ _ _ _).mpr hfig), if_pos hre]
                    first
                      | (have f1 := h131; rw [if_pos f1]; rfl)
                      | (have f1 := h131; have f2 := h144; rw [if_neg f1, if_pos f2]; rfl)
                      | (have f1 := h131; have f2 := h144; rw [if_neg f1, if_neg f2]; rfl)
                  · refine pv_aload_0 (pc := 147) dX12_repeated_147 ?_
                    refine pv_getL (pc := 148) dX12_repeated_148 fg_X12_153_12 (by decide) (sx_61 hT) ?_
                    refine pv_goto (pc := 151) (tgt := 161) dX12_repeated_151 (by decide) ?_
                    refine pv_lret (pc := 161) dX12_repeated_161 rfl ?_
                    refine qM.scr hM ((m_dn_k I L a y).at _ |>.pq _ _) ?_
                    unfold S_repeated
                    rw [if_pos h10, if_neg (fun r => r.elim h15 h21), if_neg (fun r => r.elim h41 h48), if_pos ((w_figB_iff _ _ _ _).mpr hfig), if_pos hre]
                    first
                      | (have f1 := h131; rw [if_pos f1]; rfl)
                      | (have f1 := h131; have f2 := h144; rw [if_neg f1, if_pos f2]; rfl)
                      | (have f1 := h131; have f2 := h144; rw [if_neg f1, if_neg f2]; rfl)
                · refine pv_aload_0 (pc := 134) dX12_repeated_134 ?_
                  refine pv_getL (pc := 135) dX12_repeated_135 fg_X12_150_12 (by decide) (sx_61 hT) ?_
                  refine pv_goto (pc := 138) (tgt := 161) dX12_repeated_138 (by decide) ?_
                  refine pv_lret (pc := 161) dX12_repeated_161 rfl ?_
                  refine qM.scr hM ((m_dn_k I L a y).at _ |>.pq _ _) ?_
                  unfold S_repeated
                  rw [if_pos h10, if_neg (fun r => r.elim h15 h21), if_neg (fun r => r.elim h41 h48), if_pos ((w_figB_iff _ _ _ _).mpr hfig), if_pos hre]
                  first
                    | (have f1 := h131; rw [if_pos f1]; rfl)
                    | (have f1 := h131; have f2 := h144; rw [if_neg f1, if_pos f2]; rfl)
                    | (have f1 := h131; have f2 := h144; rw [if_neg f1, if_neg f2]; rfl)
              · refine qM.scrref hM ((m_dn_k I L a y).at c |>.pq p q) (k_lt7 : 7 < 8) ?_
                unfold S_repeated
                rw [if_pos h10, if_neg (fun r => r.elim h15 h21), if_neg (fun r => r.elim h41 h48), if_pos ((w_figB_iff _ _ _ _).mpr hfig), if_neg (by rw [hre]; decide)]
            · refine qM.ref hM (k_lt6 : 6 < 8) ?_; unfold S_repeated
              rw [if_pos h10, if_neg (fun r => r.elim h15 h21), if_neg (fun r => r.elim h41 h48), if_neg (fun r => hfig ((w_figB_iff _ _ _ _).mp r))]
          · refine pv_aload_0 (pc := 51) dX12_repeated_51 ?_
            refine pv_bipush (pc := 52) (v := (-6)) dX12_repeated_52 (by decide) ?_
            refine pv_callV1 (pc := 54) dX12_repeated_54 mgX12_noLow lv_X12_226_12 (by decide) (sx_61 hT) (by omega) (c_X12_noLow (k := 6) hT hR (by decide) (by unfold vp_in; decide)) rfl rfl (by decide) ?_
            refine pv_lret (pc := 57) dX12_repeated_57 rfl ?_
            refine qM.ref hM (k_lt6 : 6 < 8) ?_; unfold S_repeated
            first
              | (have f1 := h48; rw [if_pos h10, if_neg (fun r => r.elim h15 h21), if_pos (Or.inr f1)]; done)
              | (have f1 := h41; rw [if_pos h10, if_neg (fun r => r.elim h15 h21), if_pos (Or.inl f1)]; done)
      · refine pv_bipush (pc := 24) (v := (-5)) dX12_repeated_24 (by decide) ?_
        refine pv_istore_5 (pc := 26) dX12_repeated_26 (by decide) rfl ?_
        refine pv_iload_5 (pc := 28) dX12_repeated_28 ?_
        refine pv_if_eq (pc := 30) (tgt := 40) dX12_repeated_30 (by decide) (fun q => absurd q (by decide)) (fun _ => ?_)
        refine pv_aload_0 (pc := 33) dX12_repeated_33 ?_
        refine pv_iload_5 (pc := 34) dX12_repeated_34 ?_
        refine pv_callV1 (pc := 36) dX12_repeated_36 mgX12_noLow lv_X12_226_12 (by decide) (sx_61 hT) (by omega) (c_X12_noLow (k := 5) hT hR (by decide) (by unfold vp_in; decide)) rfl rfl (by decide) ?_
        refine pv_lret (pc := 39) dX12_repeated_39 rfl ?_
        first
          | (have h9 := h21
             refine qM.ref hM (k_lt5 : 5 < 8) ?_; unfold S_repeated; rw [if_pos h10, if_pos (Or.inr h21)]; done)
          | (have h9 := h15
             refine qM.ref hM (k_lt5 : 5 < 8) ?_; unfold S_repeated; rw [if_pos h10, if_pos (Or.inl h15)]; done)
          | (refine qM.ref hM (w_bars_n s n) ?_; unfold S_repeated; rw [if_neg h10]; done)

