/-! the class: a barn's items one after another -/
theorem x_q160 : (160 : Int32).toInt = 160 := by decide
theorem x_fig_ok {c : Nat → Int32} {e r : Nat} {J : pv_I} {K : pv_L} {r1 : Nat} {J2 : pv_I} {K2 : pv_L} (h : x_fig c e r J K = .ok (r1, J2, K2)) : K2 = K ∧ ∃ k a z, J2 = S_adds J k a z := by
  unfold x_fig at h
  split at h
  · cases h
  · split at h
    · unfold x_fg1 at h
      split at h
      · cases h
      · split at h
        · unfold x_fg2 at h
          split at h
          · cases h
          · split at h
            · cases h; exact ⟨rfl, _, _, _, rfl⟩
            · cases h
        · cases h
    · cases h
def jF (J J2 : pv_I) : Prop := ∀ a j, a ≠ 1 → a ≠ 2 → a ≠ 3 → a ≠ 4 → ¬ (a = 0 ∧ j < 3) → J2 a j = J a j
def kF (K K2 : pv_L) : Prop := ∀ a j, ¬ (a = 0 ∧ j < 2) → K2 a j = K a j
theorem x_itm_fr {c : Nat → Int32} {e r : Nat} {J : pv_I} {K : pv_L} {r1 : Nat} {J2 : pv_I} {K2 : pv_L} (h : x_itm c e r J K = .ok (r1, J2, K2)) : jF J J2 ∧ kF K K2 ∧ J2 0 0 = if r < e ∧ c r = 102 then J 0 0 + 1 else J 0 0 := by
  have hd : ∀ (c : Nat → Int32) (n y : Int32) (p q : Int64), jF J (w_dn J c n y) ∧ kF K (w_pq K p q) ∧ w_dn J c n y 0 0 = J 0 0 := fun c n y p q => by
    refine ⟨fun a j h1 h2 h3 h4 h5 => ?_, fun a j h1 => ?_, ?_⟩
    · unfold w_dn; rw [pv_u_o _ (by omega), pv_u_o _ (by omega), w_st_o h4]
    · unfold w_pq; rw [pv_u_o _ (by omega), pv_u_o _ (by omega)]
    · unfold w_dn; rw [pv_u_o _ (by omega), pv_u_o _ (by omega), w_st_o (by decide)]
  unfold x_itm at h
  split at h
  · next h0 =>
    rw [if_pos h0]
    unfold x_one at h
    split at h
    · split at h
      · cases h
      · obtain ⟨rfl, k, a, z, rfl⟩ := x_fig_ok h
        exact ⟨fun a j h1 h2 h3 h4 h5 => S_adds_o (by omega) (by omega), fun _ _ _ => rfl, S_adds_n.1⟩
    · cases h
  · next h0 =>
    rw [if_neg h0]
    split at h
    · unfold x_one at h
      split at h
      · have h : x_cll c e (b_lit c e (x_wd 1) r).1 J K = .ok (r1, J2, K2) := h
        unfold x_cll at h
        split at h
        · cases h
        · next p _ =>
          split at h
          · next hc =>
            have hcal := hc.2
            unfold w_cal at h hcal
            split at h
            · cases h; exact hd _ _ _ _ _
            · next hr => rw [if_neg hr] at hcal; exact absurd (show false = true from hcal) (by decide)
          · cases h
      · cases h
    · split at h
      · unfold x_one at h
        split at h
        · have h : x_stt c e (b_lit c e (x_wd 2) r).1 J K = .ok (r1, J2, K2) := h
          unfold x_stt at h
          split at h
          · cases h
          · split at h
            · cases h
            · split at h
              · cases h
                exact ⟨fun _ _ _ _ _ _ _ => rfl, fun a j h1 => by unfold w_pq; rw [pv_u_o _ (by omega), pv_u_o _ (by omega)], rfl⟩
              · cases h
        · cases h
      · cases h
def x_bl (c : Nat → Int32) (e m r n : Nat) (J : pv_I) (K : pv_L) : BR := match b_item c e r J K with
  | .error x => .error x
  | .ok y => b_run c e m y.1 n y.2.1 y.2.2
theorem x_bl_e {c : Nat → Int32} {e m r n x : Nat} {J : pv_I} {K : pv_L} (h : b_item c e r J K = .error x) : x_bl c e m r n J K = .error x := by unfold x_bl; rw [h]
theorem x_bl_o {c : Nat → Int32} {e m r n r1 : Nat} {J J2 : pv_I} {K K2 : pv_L} (h : b_item c e r J K = .ok (r1, J2, K2)) : x_bl c e m r n J K = b_run c e m r1 n J2 K2 := by unfold x_bl; rw [h]
theorem b_run_s {c : Nat → Int32} {e m r n : Nat} {J : pv_I} {K : pv_L} (h : r < e) (g : c r = 59) : b_run c e (m + 1) r n J K = x_bl c e m (r + 1) (n + 1) J K := by
  rw [b_run, if_pos h, if_pos g]
  unfold x_bl
  cases b_item c e (r + 1) J K <;> rfl

set_option maxRecDepth 100000 in
set_option maxHeartbeats 4000000 in
theorem l_its0 {G : pv_G} {d : Nat} {Q : pv_Q} {B : BR} {J : pv_I} {t0 : pv_T} {I0 : pv_I} {L0 : pv_L} {Rf0 : pv_R} {k e : Nat} {c : Nat → Int32} (hF : fk_ok G) (hT0 : sh_ok t0) (hR0 : rf_ok Rf0) (hk8 : k < 8) (he : e ≤ 160) (hd : 24 ≤ d) (hno : ∀ x t1 I1 L1 R1, B = .error x → tE J t0 I0 L0 Rf0 k x t1 I1 L1 R1 → Q (some (.int (-1))) t1 I1 L1 R1) {m8 r n : Nat} {J1 : pv_I} {K1 : pv_L} {t : pv_T} {I : pv_I} {L : pv_L} {Rf : pv_R} (hm : e ≤ r + 0) (hn : 2 * n ≤ r + 2) (hb : tB J t0 I0 L0 Rf0 k e c J1 K1 t I L Rf r) (hB : x_bl c e 0 r n J1 K1 = B) : pv_V G mX11_readItems d 8 40 Q m8 (5 * m8) 2 [.ref 16, .ref (45 + 2 * k), .int (Int32.ofNat n)] [] t I L Rf := by
  have hT := hb.1.sh hT0
  have hR := hb.1.re hT0 hR0
  have hWW := hb.2.2.2.2.2.2.1
  have hre0 := hb.2.2.2.1.2.2.2.2
  refine pv_iload_2 (pc := 2) dX11_readItems_2 ?_
  refine pv_sipush (pc := 3) (v := 160) dX11_readItems_3 (by decide) ?_
  refine pv_icmp_gt (pc := 6) (tgt := 45) dX11_readItems_6 (by decide) (fun h6 => absurd h6 (by have e0 := i_of (k := n) (by omega); have q160 := x_q160; simp only [i_lt]; omega)) (fun h6 => ?_)
  refine pv_aload_0 (pc := 9) dX11_readItems_9 ?_
  refine pv_aload_1 (pc := 10) dX11_readItems_10 ?_
  have hro : ¬ (r < e ∧ c r = 102) := fun q => by omega
  have eI : x_itm c e r J1 K1 = .error r := by
    unfold x_itm
    rw [if_neg hro, if_neg (fun q => by omega), if_neg (fun q => by omega)]
  refine pv_callVq (pc := 11) dX11_readItems_11 mgX11_readItem lv_X11_428_11 (by decide) (sx_16 hT) (by omega) (c_item_o hT0 hR0 hk8 hb hF (fun q => hro q.1) (by omega)) rfl rfl (Nat.le_of_ble_eq_true rfl) (fun v t1 I1 L1 R1 hq => ?_)
  rcases hq with ⟨r1, J2, K2, eB, rfl, hb2⟩ | ⟨x, eB, rfl, he2⟩
  · rw [eI] at eB; cases eB
  · skip
    refine pv_if_ne (pc := 14) (tgt := 19) dX11_readItems_14 (by decide) (fun q => absurd q (by decide)) (fun _ => ?_)
    refine pv_iconst (pc := 17) (v := (-1)) dX11_readItems_17 (by decide) ?_
    refine pv_iret (pc := 18) dX11_readItems_18 rfl rfl ?_
    exact hno _ _ _ _ _ (by rw [← hB]; exact x_bl_e (by rw [← x_itm_b c e r hWW]; exact eB)) he2

set_option maxRecDepth 100000 in
set_option maxHeartbeats 4000000 in
theorem l_its {G : pv_G} {d : Nat} {Q : pv_Q} {B : BR} {J : pv_I} {t0 : pv_T} {I0 : pv_I} {L0 : pv_L} {Rf0 : pv_R} {k e : Nat} {c : Nat → Int32} (hF : fk_ok G) (hT0 : sh_ok t0) (hR0 : rf_ok Rf0) (hk8 : k < 8) (he : e ≤ 160) (hd : 24 ≤ d) (hyes : ∀ n1 J2 K2 t1 I1 L1 R1 r1, B = .ok (n1, J2, K2) → tB J t0 I0 L0 Rf0 k e c J2 K2 t1 I1 L1 R1 r1 → Q (some (.int (Int32.ofNat n1))) t1 I1 L1 R1) (hno : ∀ x t1 I1 L1 R1, B = .error x → tE J t0 I0 L0 Rf0 k x t1 I1 L1 R1 → Q (some (.int (-1))) t1 I1 L1 R1) : ∀ (m m8 r n : Nat) (J1 : pv_I) (K1 : pv_L) (t : pv_T) (I : pv_I) (L : pv_L) (Rf : pv_R), e ≤ r + m → 1 ≤ n → 2 * n ≤ r + 2 → 8 ≤ (J1 0 0).toInt + m8 → tB J t0 I0 L0 Rf0 k e c J1 K1 t I L Rf r → x_bl c e m r n J1 K1 = B → pv_V G mX11_readItems d 8 40 Q m8 (5 * m8) 2 [.ref 16, .ref (45 + 2 * k), .int (Int32.ofNat n)] [] t I L Rf := by
  intro m
  induction m with
  | zero =>
    intro m8 r n J1 K1 t I L Rf hm h1n hn h8m hb hB
    exact l_its0 hF hT0 hR0 hk8 he hd hno hm hn hb hB
  | succ m ih =>
    intro m8 r n J1 K1 t I L Rf hm h1n hn h8m hb hB
    have hT := hb.1.sh hT0
    have hR := hb.1.re hT0 hR0
    have hWW := hb.2.2.2.2.2.2.1
    have hre0 := hb.2.2.2.1.2.2.2.2
    have aft : ∀ v t1 I1 L1 R1 (bc : Nat), q_it J t0 I0 L0 Rf0 k e c (x_itm c e r J1 K1) v t1 I1 L1 R1 → (∀ r1 J2 K2, x_itm c e r J1 K1 = .ok (r1, J2, K2) → 8 ≤ (J2 0 0).toInt + bc) → pv_V G mX11_readItems d 8 40 Q bc (5 * bc) 14 [.ref 16, .ref (45 + 2 * k), .int (Int32.ofNat n)] (v.toList ++ []) t1 I1 L1 R1 := by
      intro v t1 I1 L1 R1 bc hq hc8
      rcases hq with ⟨r1, J2, K2, eB, rfl, hb2⟩ | ⟨x, eB, rfl, he2⟩
      · have hT := hb2.1.sh hT0
        have hR := hb2.1.re hT0 hR0
        have hT1 := hT
        have hR1 := hR
        have hr1 := hb2.2.2.2.1.2.2.2.2
        have eB2 := eB
        rw [x_itm_b c e r hWW] at eB2
        have hlt := (b_item_ok hWW hre0 eB2).2.1
        rw [x_bl_o eB2] at hB
        by_cases hre : r1 < e
        · by_cases hse : c r1 = 59
          · have hBn := hB
            rw [b_run_s hre hse] at hBn
            refine pv_if_ne (pc := 14) (tgt := 19) dX11_readItems_14 (by decide) (fun _ => ?_) (fun q => absurd q (by decide))
            refine pv_aload_1 (pc := 19) dX11_readItems_19 ?_
            refine pv_callV1 (pc := 20) dX11_readItems_20 mgX8_isRead lv_X11_432_8 (by omega) (sx_sh hT hk8) (by omega) (c_X8_isRead hT1 hR1 hk8 hb2.2.2.2.1) rfl rfl (by decide) ?_
            refine pv_if_eq (pc := 23) (tgt := 28) dX11_readItems_23 (by decide) (fun h23 => ?_) (fun h23 => absurd h23 (not_not_intro (by rw [decide_eq_true hre]; rfl)))
            refine pv_aload_1 (pc := 28) dX11_readItems_28 ?_
            refine pv_bipush (pc := 29) (v := 59) dX11_readItems_29 (by decide) ?_
            refine pv_callV1 (pc := 31) dX11_readItems_31 mgX8_reads lv_X11_435_8 (by omega) (sx_sh hT hk8) (by omega) (c_reads_t hT1 hR1 hk8 hb2.2.2.2.1 hre hse (by omega)) rfl rfl (by decide) ?_
            refine pv_if_ne (pc := 34) (tgt := 39) dX11_readItems_34 (by decide) (fun _ => ?_) (fun q => absurd q (by decide))
            refine pv_iinc_2 (pc := 39) (v := _ + 1) dX11_readItems_39 rfl (by decide) rfl ?_
            refine pv_goto (pc := 42) (tgt := 2) dX11_readItems_42 (by decide) ?_
            rw [i_inc]
            exact ih bc (r1 + 1) (n + 1) J2 K2 _ _ _ _ (by omega) (by omega) (by omega) (hc8 _ _ _ eB) (hb2.rd hk8 (sF.rf.u 4 _ (by omega)) (by rw [pv_u_eq, if_pos rfl]) (by omega)) hBn
          · have hBn : B = .error r1 := by rw [← hB, b_run, if_pos hre, if_neg hse]
            refine pv_if_ne (pc := 14) (tgt := 19) dX11_readItems_14 (by decide) (fun _ => ?_) (fun q => absurd q (by decide))
            refine pv_aload_1 (pc := 19) dX11_readItems_19 ?_
            refine pv_callV1 (pc := 20) dX11_readItems_20 mgX8_isRead lv_X11_432_8 (by omega) (sx_sh hT hk8) (by omega) (c_X8_isRead hT1 hR1 hk8 hb2.2.2.2.1) rfl rfl (by decide) ?_
            refine pv_if_eq (pc := 23) (tgt := 28) dX11_readItems_23 (by decide) (fun h23 => ?_) (fun h23 => absurd h23 (not_not_intro (by rw [decide_eq_true hre]; rfl)))
            refine pv_aload_1 (pc := 28) dX11_readItems_28 ?_
            refine pv_bipush (pc := 29) (v := 59) dX11_readItems_29 (by decide) ?_
            refine pv_callV1 (pc := 31) dX11_readItems_31 mgX8_reads lv_X11_435_8 (by omega) (sx_sh hT hk8) (by omega) (c_reads_n hT1 hR1 hk8 hb2.2.2.2.1 hre hse (by omega)) rfl rfl (by decide) ?_
            refine pv_if_ne (pc := 34) (tgt := 39) dX11_readItems_34 (by decide) (fun q => absurd q (by decide)) (fun _ => ?_)
            refine pv_iconst (pc := 37) (v := (-1)) dX11_readItems_37 (by decide) ?_
            refine pv_iret (pc := 38) dX11_readItems_38 rfl rfl ?_
            exact hno _ _ _ _ _ hBn (hb2.er (sF.rf.u 6 _ (by omega)) (by rw [pv_u_eq, if_pos rfl]))
        · have hBn : B = .ok (n, J2, K2) := by rw [← hB, b_run, if_neg hre]
          refine pv_if_ne (pc := 14) (tgt := 19) dX11_readItems_14 (by decide) (fun _ => ?_) (fun q => absurd q (by decide))
          refine pv_aload_1 (pc := 19) dX11_readItems_19 ?_
          refine pv_callV1 (pc := 20) dX11_readItems_20 mgX8_isRead lv_X11_432_8 (by omega) (sx_sh hT hk8) (by omega) (c_X8_isRead hT1 hR1 hk8 hb2.2.2.2.1) rfl rfl (by decide) ?_
          refine pv_if_eq (pc := 23) (tgt := 28) dX11_readItems_23 (by decide) (fun h23 => absurd h23 (by rw [decide_eq_false hre]; decide)) (fun h23 => ?_)
          refine pv_iload_2 (pc := 26) dX11_readItems_26 ?_
          refine pv_iret (pc := 27) dX11_readItems_27 rfl rfl ?_
          exact hyes _ _ _ _ _ _ _ _ hBn hb2
      · skip
        refine pv_if_ne (pc := 14) (tgt := 19) dX11_readItems_14 (by decide) (fun q => absurd q (by decide)) (fun _ => ?_)
        refine pv_iconst (pc := 17) (v := (-1)) dX11_readItems_17 (by decide) ?_
        refine pv_iret (pc := 18) dX11_readItems_18 rfl rfl ?_
        exact hno _ _ _ _ _ (by rw [← hB]; exact x_bl_e (by rw [← x_itm_b c e r hWW]; exact eB)) he2
    by_cases hf : (r < e ∧ c r = 102) ∧ ¬ J1 0 0 = 8
    · have h8 : (J1 0 0).toInt < 8 := by
        have z := hf.2
        rw [← Int32.toInt_inj, show (8 : Int32).toInt = 8 by decide] at z
        have := hWW.1.2
        omega
      refine pv_iload_2 (pc := 2) dX11_readItems_2 ?_
      refine pv_sipush (pc := 3) (v := 160) dX11_readItems_3 (by decide) ?_
      refine pv_icmp_gt (pc := 6) (tgt := 45) dX11_readItems_6 (by decide) (fun h6 => absurd h6 (by have e0 := i_of (k := n) (by omega); have q160 := x_q160; simp only [i_lt]; omega)) (fun h6 => ?_)
      refine pv_aload_0 (pc := 9) dX11_readItems_9 ?_
      refine pv_aload_1 (pc := 10) dX11_readItems_10 ?_
      obtain ⟨m9, rfl⟩ : ∃ m9, m8 = m9 + 1 := ⟨m8 - 1, by omega⟩
      show pv_V G mX11_readItems d 8 40 Q (m9 + 1) (5 * m9 + 5) _ _ _ _ _ _ _
      refine pv_callV (bc := m9) (bs := 5 * m9) (d1 := d - 1) (pc := 11) dX11_readItems_11 mgX11_readItem lv_X11_428_11 (by decide) (sx_16 hT) (by omega) (c_item_f hT0 hR0 hk8 hb hF hf.1 h8 (by omega)) rfl rfl (Nat.le_of_ble_eq_true rfl) (fun v t1 I1 L1 R1 hq => ?_)
      exact aft v t1 I1 L1 R1 m9 hq (fun r1 J2 K2 hz => by
        have z := (x_itm_fr hz).2.2
        rw [if_pos hf.1] at z
        have z2 : (J1 0 0 + 1).toInt = (J1 0 0).toInt + 1   := x_n1 (by have := hWW.1; omega)
        rw [z, z2]; omega)
    · skip
      refine pv_iload_2 (pc := 2) dX11_readItems_2 ?_
      refine pv_sipush (pc := 3) (v := 160) dX11_readItems_3 (by decide) ?_
      refine pv_icmp_gt (pc := 6) (tgt := 45) dX11_readItems_6 (by decide) (fun h6 => absurd h6 (by have e0 := i_of (k := n) (by omega); have q160 := x_q160; simp only [i_lt]; omega)) (fun h6 => ?_)
      refine pv_aload_0 (pc := 9) dX11_readItems_9 ?_
      refine pv_aload_1 (pc := 10) dX11_readItems_10 ?_
      refine pv_callVq (pc := 11) dX11_readItems_11 mgX11_readItem lv_X11_428_11 (by decide) (sx_16 hT) (by omega) (c_item_o hT0 hR0 hk8 hb hF hf (by omega)) rfl rfl (Nat.le_of_ble_eq_true rfl) (fun v t1 I1 L1 R1 hq => ?_)
      exact aft v t1 I1 L1 R1 m8 hq (fun r1 J2 K2 hz => by
        have z := (x_itm_fr hz).2.2
        by_cases hr : r < e ∧ c r = 102
        · exfalso
          have j8 : J1 0 0 = 8 := Classical.byContradiction (fun q => hf ⟨hr, q⟩)
          unfold x_itm at hz
          rw [if_pos hr] at hz
          unfold x_one at hz
          split at hz
          · first
              | (rw [if_pos j8] at hz; cases hz)
              | cases hz
          · cases hz
        · rw [if_neg hr] at z
          rw [z]; exact h8m)

