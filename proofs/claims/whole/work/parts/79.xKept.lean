/-! the class: kept and lot -/
def ag_ok (a g : Nat) : Prop := (a = 35 ∧ g = 40) ∨ (a = 40 ∧ g = 35)
theorem ag_cr {t : pv_T} {Rf : pv_R} {a : Nat} (hT : sh_ok t) (hR : rf_ok Rf) (h : a = 35 ∨ a = 40) : cr_ok t Rf a := by
  rcases h with rfl | rfl
  · exact cr_35 hT hR
  · exact cr_40 hT hR

set_option maxRecDepth 100000 in
set_option maxHeartbeats 4000000 in
theorem l_rowsOf {G : pv_G} {d N : Nat} {b : Int64} {cl0 : CL} {x0 : Int64 × Int64} {t : pv_T} {Rf : pv_R} {J0 : pv_I} {L0 : pv_L} (hT : sh_ok t) (hR : rf_ok Rf) (hN : N ≤ 9) (hd : 8 ≤ d) : ∀ (m i a g : Nat) (cl : CL) (I : pv_I) (L : pv_L) (l7 : Value), i + m = N → ag_ok a g → XC a cl I L → c_good i x0 cl → c_rows (x_ok b) m cl = c_rows (x_ok b) N cl0 → kC J0 L0 I L → pv_V G mX11_rowsOf d 0 0 (fun v t1 I1 L1 R1 => (∃ z, v = some (.ref z) ∧ (z = 35 ∨ z = 40) ∧ XC z (c_rows (x_ok b) N cl0) I1 L1) ∧ t1 = t ∧ R1 = Rf ∧ kC J0 L0 I1 L1) 0 0 24 [.ref 16, .int (Int32.ofNat N), .long b, .retAddr 0, .ref a, .ref g, .int (Int32.ofNat i), l7] [] t I L Rf := by
  intro m
  induction m with
  | zero =>
    intro i a g cl I L l7 hi hag0 hX hgd hr hk
    have hc : cr_ok t Rf a := ag_cr hT hR (by rcases hag0 with q | q; exact Or.inl q.1; exact Or.inr q.1)
    have hg : cr_ok t Rf g := ag_cr hT hR (by rcases hag0 with q | q; exact Or.inr q.2; exact Or.inl q.2)
    refine pv_iload_6 (pc := 24) dX11_rowsOf_24 ?_
    refine pv_iload_1 (pc := 26) dX11_rowsOf_26 ?_
    refine pv_icmp_ge (pc := 27) (tgt := 78) dX11_rowsOf_27 (by decide) (fun h27 => ?_) (fun h27 => absurd h27 (by have e0 := i_of (k := i) (by omega); have e1 := i_of (k := N) (by omega); simp only [i_lt]; omega))
    refine pv_aload_4 (pc := 78) dX11_rowsOf_78 ?_
    refine pv_aret (pc := 80) dX11_rowsOf_80 (Or.inr ⟨_, rfl⟩) rfl (Or.inl ⟨_, rfl⟩) ?_
    rw [c_rows] at hr
    exact ⟨⟨_, rfl, by rcases hag0 with ⟨q, _⟩ | ⟨q, _⟩; exact Or.inl q; exact Or.inr q, hr ▸ hX⟩, rfl, rfl, hk⟩
  | succ m ih =>
    intro i a g cl I L l7 hi hag0 hX hgd hr hk
    have hc : cr_ok t Rf a := ag_cr hT hR (by rcases hag0 with q | q; exact Or.inl q.1; exact Or.inr q.1)
    have hg : cr_ok t Rf g := ag_cr hT hR (by rcases hag0 with q | q; exact Or.inr q.2; exact Or.inl q.2)
    have hag : g + 5 ≤ a ∨ a + 5 ≤ g := by unfold ag_ok at hag0; omega
    have hag2 : g + 5 ≤ a ∨ a + 5 ≤ g := hag
    refine pv_iload_6 (pc := 24) dX11_rowsOf_24 ?_
    refine pv_iload_1 (pc := 26) dX11_rowsOf_26 ?_
    refine pv_icmp_ge (pc := 27) (tgt := 78) dX11_rowsOf_27 (by decide) (fun h27 => absurd h27 (by have e0 := i_of (k := i) (by omega); have e1 := i_of (k := N) (by omega); simp only [i_lt]; omega)) (fun h27 => ?_)
    refine pv_aload_5 (pc := 30) dX11_rowsOf_30 ?_
    refine pv_callVq (pc := 32) dX11_rowsOf_32 mgX2_clear lv_X11_418_2 hg.1 hg.2.1 (by omega) (c_X2_clear hg (by omega)) rfl rfl (by decide) (fun v t I L Rf hq => ?_)
    obtain ⟨rfl, rfl, rfl, rfl, hy, gy, fy⟩ := hq
    have hX0 := hX.fr gy hag
    have hg0 : c_good (i + 1) x0 [] := c_good.nil
    refine pv_iconst (pc := 35) (v := 0) dX11_rowsOf_35 (by decide) ?_
    refine pv_istore_7 (pc := 36) dX11_rowsOf_36 (by decide) rfl ?_
    refine pv_iload_7 (pc := 38) dX11_rowsOf_38 ?_
    refine pv_iconst (pc := 40) (v := 2) dX11_rowsOf_40 (by decide) ?_
    refine pv_icmp_gt (pc := 41) (tgt := 60) dX11_rowsOf_41 (by decide) (fun q => absurd q (by decide)) (fun _ => ?_)
    refine pv_aload_5 (pc := 44) dX11_rowsOf_44 ?_
    refine pv_aload_4 (pc := 46) dX11_rowsOf_46 ?_
    refine pv_iload_7 (pc := 48) dX11_rowsOf_48 ?_
    refine pv_lload_2 (pc := 50) dX11_rowsOf_50 ?_
    refine pv_callVq (pc := 51) dX11_rowsOf_51 mgX2_addStepped lv_X11_421_2 hg.1 hg.2.1 (by omega) (c_X2_addStepped (f := false) (cl := cl) hg hc hag2 hX0 hy fy (fun j => ((hgd.take j).step (by omega) hg0 (Or.inl rfl) _).len (by omega)) (by omega)) rfl rfl (by decide) (fun v t I L Rf hq => ?_)
    obtain ⟨rfl, rfl, rfl, hy0, gy0, fy0⟩ := hq
    have hX1 := hX0.fr gy0 hag
    have hg1 := hgd.step (by omega) hg0 (s := 0) (Or.inl rfl) (x_ok b)
    refine pv_iinc_7 (pc := 54) (v := 1) dX11_rowsOf_54 (by decide) (by decide) rfl ?_
    refine pv_goto (pc := 57) (tgt := 38) dX11_rowsOf_57 (by decide) ?_
    refine pv_iload_7 (pc := 38) dX11_rowsOf_38 ?_
    refine pv_iconst (pc := 40) (v := 2) dX11_rowsOf_40 (by decide) ?_
    refine pv_icmp_gt (pc := 41) (tgt := 60) dX11_rowsOf_41 (by decide) (fun q => absurd q (by decide)) (fun _ => ?_)
    refine pv_aload_5 (pc := 44) dX11_rowsOf_44 ?_
    refine pv_aload_4 (pc := 46) dX11_rowsOf_46 ?_
    refine pv_iload_7 (pc := 48) dX11_rowsOf_48 ?_
    refine pv_lload_2 (pc := 50) dX11_rowsOf_50 ?_
    refine pv_callVq (pc := 51) dX11_rowsOf_51 mgX2_addStepped lv_X11_421_2 hg.1 hg.2.1 (by omega) (c_X2_addStepped (cl := cl) hg hc hag2 hX1 hy0 fy0 (fun j => ((hgd.take j).step (by omega) hg1 (Or.inr (Or.inl rfl)) _).len (by omega)) (by omega)) rfl rfl (by decide) (fun v t I L Rf hq => ?_)
    obtain ⟨rfl, rfl, rfl, hy1, gy1, fy1⟩ := hq
    have hX2 := hX1.fr gy1 hag
    have hg2 := hgd.step (by omega) hg1 (s := 1) (Or.inr (Or.inl rfl)) (x_ok b)
    refine pv_iinc_7 (pc := 54) (v := 2) dX11_rowsOf_54 (by decide) (by decide) rfl ?_
    refine pv_goto (pc := 57) (tgt := 38) dX11_rowsOf_57 (by decide) ?_
    refine pv_iload_7 (pc := 38) dX11_rowsOf_38 ?_
    refine pv_iconst (pc := 40) (v := 2) dX11_rowsOf_40 (by decide) ?_
    refine pv_icmp_gt (pc := 41) (tgt := 60) dX11_rowsOf_41 (by decide) (fun q => absurd q (by decide)) (fun _ => ?_)
    refine pv_aload_5 (pc := 44) dX11_rowsOf_44 ?_
    refine pv_aload_4 (pc := 46) dX11_rowsOf_46 ?_
    refine pv_iload_7 (pc := 48) dX11_rowsOf_48 ?_
    refine pv_lload_2 (pc := 50) dX11_rowsOf_50 ?_
    refine pv_callVq (pc := 51) dX11_rowsOf_51 mgX2_addStepped lv_X11_421_2 hg.1 hg.2.1 (by omega) (c_X2_addStepped (cl := cl) hg hc hag2 hX2 hy1 fy1 (fun j => ((hgd.take j).step (by omega) hg2 (Or.inr (Or.inr rfl)) _).len (by omega)) (by omega)) rfl rfl (by decide) (fun v t I L Rf hq => ?_)
    obtain ⟨rfl, rfl, rfl, hy2, gy2, fy2⟩ := hq
    have hg3 := hgd.step (by omega) hg2 (s := 2) (Or.inr (Or.inr rfl)) (x_ok b)
    refine pv_iinc_7 (pc := 54) (v := 3) dX11_rowsOf_54 (by decide) (by decide) rfl ?_
    refine pv_goto (pc := 57) (tgt := 38) dX11_rowsOf_57 (by decide) ?_
    refine pv_iload_7 (pc := 38) dX11_rowsOf_38 ?_
    refine pv_iconst (pc := 40) (v := 2) dX11_rowsOf_40 (by decide) ?_
    refine pv_icmp_gt (pc := 41) (tgt := 60) dX11_rowsOf_41 (by decide) (fun _ => ?_) (fun q => absurd q (by decide))
    refine pv_aload_4 (pc := 60) dX11_rowsOf_60 ?_
    refine pv_astore_7 (pc := 62) dX11_rowsOf_62 (by decide) rfl ?_
    refine pv_aload_5 (pc := 64) dX11_rowsOf_64 ?_
    refine pv_astore_4 (pc := 66) dX11_rowsOf_66 (by decide) rfl ?_
    refine pv_aload_7 (pc := 68) dX11_rowsOf_68 ?_
    refine pv_astore_5 (pc := 70) dX11_rowsOf_70 (by decide) rfl ?_
    refine pv_iinc_6 (pc := 72) (v := _ + 1) dX11_rowsOf_72 rfl (by decide) rfl ?_
    refine pv_goto (pc := 75) (tgt := 24) dX11_rowsOf_75 (by decide) ?_
    rw [i_inc]
    refine ih (i + 1) g a (c_all (x_ok b) cl) _ _ _ (by omega) (by rcases hag0 with q | q; exact Or.inr ⟨q.2, q.1⟩; exact Or.inl ⟨q.2, q.1⟩) hy2 hg3 ?_ ?_
    · rw [← hr]; rfl
    · exact hk.tr ((gy.tr (gy0.tr (gy1.tr gy2))).kC (by rcases hag0 with q | q; exact Or.inr q.2; exact Or.inl q.2))

set_option maxRecDepth 100000 in
set_option maxHeartbeats 4000000 in
theorem c_X11_rowsOf {G : pv_G} {d : Nat} {N : Nat} {b : Int64} {p q : Int64} {t : pv_T} {I : pv_I} {L : pv_L} {Rf : pv_R} (hT : sh_ok t) (hR : rf_ok Rf) (hN : N ≤ 9) (hp : L 21 1 = p) (hq2 : L 21 2 = q) (hg : s_isN p q) (hd : 10 ≤ d) : pv_Mt G mX11_rowsOf d 0 0 [.ref 16, .int (Int32.ofNat N), .long b] t I L Rf (fun v t1 I1 L1 R1 => (∃ z, v = some (.ref z) ∧ (z = 35 ∨ z = 40) ∧ XC z (c_rows (x_ok b) N [((p, q), 1)]) I1 L1) ∧ t1 = t ∧ R1 = Rf ∧ kC I L I1 L1) := by
  refine pv_mt mgX11_rowsOf.2.2.2.2.2 [.ref 16, .int (Int32.ofNat N), .long b, .retAddr 0, .retAddr 0, .retAddr 0, .retAddr 0, .retAddr 0] rfl (Nat.le_of_ble_eq_true rfl) ?_
  refine pv_aload_0 (pc := 0) dX11_rowsOf_0 ?_
  refine pv_getR (pc := 1) dX11_rowsOf_1 fg_X11_54_11 rfl (by decide) (sx_16 hT) (rx_16_9 hR) ?_
  refine pv_astore_4 (pc := 4) dX11_rowsOf_4 (by decide) rfl ?_
  refine pv_aload_0 (pc := 6) dX11_rowsOf_6 ?_
  refine pv_getR (pc := 7) dX11_rowsOf_7 fg_X11_58_11 rfl (by decide) (sx_16 hT) (rx_16_10 hR) ?_
  refine pv_astore_5 (pc := 10) dX11_rowsOf_10 (by decide) rfl ?_
  refine pv_aload_4 (pc := 12) dX11_rowsOf_12 ?_
  refine pv_aload_0 (pc := 14) dX11_rowsOf_14 ?_
  refine pv_getR (pc := 15) dX11_rowsOf_15 fg_X11_31_11 rfl (by decide) (sx_16 hT) (rx_16_4 hR) ?_
  refine pv_callVq (pc := 18) dX11_rowsOf_18 mgX2_begin lv_X11_415_2 (by decide) (sx_35 hT) (by omega) (c_X2_begin hT hR (cr_35 hT hR) (Or.inl rfl) (by omega)) rfl rfl (by decide) (fun v t I L Rf hq => ?_)
  obtain ⟨rfl, rfl, rfl, hx0, hg0, h50⟩ := hq
  refine pv_iconst (pc := 21) (v := 0) dX11_rowsOf_21 (by decide) ?_
  refine pv_istore_6 (pc := 22) dX11_rowsOf_22 (by decide) rfl ?_
  rw [hp, hq2] at hx0
  exact l_rowsOf (x0 := (_, _)) hT hR hN (by omega) N 0 35 40 _ _ _ _ (by omega) (Or.inl ⟨rfl, rfl⟩) hx0 (c_good_0 hg 1) rfl (hg0.kC (Or.inl rfl))

theorem c_rowsOf_n {G : pv_G} {d : Nat} {N : Nat} {n : Int32} (en : n = Int32.ofNat N) {b : Int64} {p q : Int64} {t : pv_T} {I : pv_I} {L : pv_L} {Rf : pv_R} (hT : sh_ok t) (hR : rf_ok Rf) (hN : N ≤ 9) (hp : L 21 1 = p) (hq2 : L 21 2 = q) (hg : s_isN p q) (hd : 10 ≤ d) : pv_Mt G mX11_rowsOf d 0 0 [.ref 16, .int n, .long b] t I L Rf (fun v t1 I1 L1 R1 => (∃ z, v = some (.ref z) ∧ (z = 35 ∨ z = 40) ∧ XC z (c_rows (x_ok b) N [((p, q), 1)]) I1 L1) ∧ t1 = t ∧ R1 = Rf ∧ kC I L I1 L1) := by
  subst en
  exact c_X11_rowsOf hT hR hN hp hq2 hg hd

set_option maxRecDepth 100000 in
set_option maxHeartbeats 4000000 in
theorem c_X11_kept {G : pv_G} {d : Nat} {J : pv_I} {K : pv_L} {n : Int32} {b : Int64} {t : pv_T} {I : pv_I} {L : pv_L} {Rf : pv_R} (hW : WF J K) (hX : RX J K t I L Rf)  (hd : 60 ≤ d) : pv_Mt G mX11_kept d 0 0 [.ref 16, .int n, .long b] t I L Rf (qX (S_kept J K n b) I L) := by
  refine pv_mt mgX11_kept.2.2.2.2.2 [.ref 16, .int n, .long b, .retAddr 0] rfl (Nat.le_of_ble_eq_true rfl) ?_
  have hT := hX.1
  have hR := hX.2.1
  obtain ⟨-, -, ⟨xp, xq, xn, xst, xsp, xsd, xc⟩, xf, xs, xb, xi⟩ := id hX
  refine pv_iload_1 (pc := 0) dX11_kept_0 ?_
  refine pv_if_lt (pc := 1) (tgt := 24) dX11_kept_1 (by decide) (fun h1 => ?_) (fun h1 => ?_)
  · refine pv_aload_0 (pc := 24) dX11_kept_24 ?_
    refine pv_bipush (pc := 25) (v := 6) dX11_kept_25 (by decide) ?_
    refine pv_callV1 (pc := 27) dX11_kept_27 mgX11_refuse lv_X11_70_11 (by decide) (sx_16 hT) (by omega) (c_X11_refuse (k := 6) hT hR (by decide) (by unfold vp_in; decide)) rfl rfl (by decide) ?_
    refine pv_iret (pc := 30) dX11_kept_30 rfl rfl ?_
    refine qX.ref hX k_l6 ?_
    unfold S_kept
    rw [if_pos]
    first
      | exact Or.inl (by first | exact h1 | exact Classical.not_not.mp h1)
      | exact Or.inr (Or.inl (by first | exact h7 | exact Classical.not_not.mp h7))
      | exact Or.inr (Or.inr (Or.inl (by first | exact h12 | exact Classical.not_not.mp h12)))
      | exact Or.inr (Or.inr (Or.inr (by first | exact h20 | exact Classical.not_not.mp h20)))
  · refine pv_iload_1 (pc := 4) dX11_kept_4 ?_
    refine pv_bipush (pc := 5) (v := 9) dX11_kept_5 (by decide) ?_
    refine pv_icmp_gt (pc := 7) (tgt := 24) dX11_kept_7 (by decide) (fun h7 => ?_) (fun h7 => ?_)
    · refine pv_aload_0 (pc := 24) dX11_kept_24 ?_
      refine pv_bipush (pc := 25) (v := 6) dX11_kept_25 (by decide) ?_
      refine pv_callV1 (pc := 27) dX11_kept_27 mgX11_refuse lv_X11_70_11 (by decide) (sx_16 hT) (by omega) (c_X11_refuse (k := 6) hT hR (by decide) (by unfold vp_in; decide)) rfl rfl (by decide) ?_
      refine pv_iret (pc := 30) dX11_kept_30 rfl rfl ?_
      refine qX.ref hX k_l6 ?_
      unfold S_kept
      rw [if_pos]
      first
        | exact Or.inl (by first | exact h1 | exact Classical.not_not.mp h1)
        | exact Or.inr (Or.inl (by first | exact h7 | exact Classical.not_not.mp h7))
        | exact Or.inr (Or.inr (Or.inl (by first | exact h12 | exact Classical.not_not.mp h12)))
        | exact Or.inr (Or.inr (Or.inr (by first | exact h20 | exact Classical.not_not.mp h20)))
    · refine pv_lload_2 (pc := 10) dX11_kept_10 ?_
      refine pv_lconst (pc := 11) (v := 1) dX11_kept_11 (by decide) ?_
      refine pv_lcmp_lt (pc := 12) (tgt := 24) dX11_kept_12 dX11_kept_13 (by decide) (fun h12 => ?_) (fun h12 => ?_)
      · refine pv_aload_0 (pc := 24) dX11_kept_24 ?_
        refine pv_bipush (pc := 25) (v := 6) dX11_kept_25 (by decide) ?_
        refine pv_callV1 (pc := 27) dX11_kept_27 mgX11_refuse lv_X11_70_11 (by decide) (sx_16 hT) (by omega) (c_X11_refuse (k := 6) hT hR (by decide) (by unfold vp_in; decide)) rfl rfl (by decide) ?_
        refine pv_iret (pc := 30) dX11_kept_30 rfl rfl ?_
        refine qX.ref hX k_l6 ?_
        unfold S_kept
        rw [if_pos]
        first
          | exact Or.inl (by first | exact h1 | exact Classical.not_not.mp h1)
          | exact Or.inr (Or.inl (by first | exact h7 | exact Classical.not_not.mp h7))
          | exact Or.inr (Or.inr (Or.inl (by first | exact h12 | exact Classical.not_not.mp h12)))
          | exact Or.inr (Or.inr (Or.inr (by first | exact h20 | exact Classical.not_not.mp h20)))
      · refine pv_lload_2 (pc := 16) dX11_kept_16 ?_
        refine pv_ldc2 (pc := 17) dX11_kept_17 k_X11_297 ?_
        refine pv_lcmp_le (pc := 20) (tgt := 31) dX11_kept_20 dX11_kept_21 (by decide) (fun h20 => ?_) (fun h20 => ?_)
        · have q0 : (0 : Int32).toInt = 0 := by decide
          have q9 : (9 : Int32).toInt = 9 := by decide
          have n0 : 0 ≤ n.toInt := by
            have f1 : ¬ n < 0 := h1
            rw [i_lt] at f1; omega
          have n9 : n.toInt ≤ 9 := by
            have f1 : ¬ 9 < n := h7
            rw [i_lt] at f1; omega
          have nl := i_lit n
          have en : n = Int32.ofNat n.toNatClampNeg := by rw [← Int32.toInt_inj, i_of (by omega)]; omega
          have hb1 : ¬ b < 1 := by first | exact h12 | exact Classical.not_not.mp h12
          have hb2 : ¬ 1000000 < b := by first | exact h20 | exact Classical.not_not.mp h20
          have hb0 : 0 ≤ b.toInt := by rw [Int64.lt_iff_toInt_lt, show (1 : Int64).toInt = 1 by decide] at hb1; omega
          refine pv_aload_0 (pc := 31) dX11_kept_31 ?_
          refine pv_iload_1 (pc := 32) dX11_kept_32 ?_
          refine pv_lload_2 (pc := 33) dX11_kept_33 ?_
          refine pv_callVq (pc := 34) dX11_kept_34 mgX11_rowsOf lv_X11_299_11 (by decide) (sx_16 hT) (by omega) (c_rowsOf_n (N := n.toNatClampNeg) (b := b) en hT hR (by omega) xp xq hW.2.2.1 (by omega)) rfl rfl (by decide) (fun v t I L Rf hq => ?_)
          obtain ⟨⟨z, rfl, hz, hxx⟩, rfl, rfl, hk1⟩ := hq
          have hcr : cr_ok t Rf z := ag_cr hT hR hz
          have ez := i_nat (k := n.toNatClampNeg) (by omega)
          refine pv_callV1 (pc := 37) dX11_kept_37 mgX2_allRows lv_X11_303_2 hcr.1 hcr.2.1 (by omega) (c_X2_allRows hcr hxx) rfl rfl (by decide) ?_
          refine pv_iret (pc := 40) dX11_kept_40 rfl rfl ?_
          refine qX.scr hX hk1 ?_
          unfold S_kept
          rw [if_neg (by rintro (g | g | g | g); exact h1 g; exact h7 g; exact hb1 g; exact hb2 g), ← x_kept hb0 hW.2.2.1 (n := n.toNatClampNeg) (by omega)]
        · refine pv_aload_0 (pc := 24) dX11_kept_24 ?_
          refine pv_bipush (pc := 25) (v := 6) dX11_kept_25 (by decide) ?_
          refine pv_callV1 (pc := 27) dX11_kept_27 mgX11_refuse lv_X11_70_11 (by decide) (sx_16 hT) (by omega) (c_X11_refuse (k := 6) hT hR (by decide) (by unfold vp_in; decide)) rfl rfl (by decide) ?_
          refine pv_iret (pc := 30) dX11_kept_30 rfl rfl ?_
          refine qX.ref hX k_l6 ?_
          unfold S_kept
          rw [if_pos]
          first
            | exact Or.inl (by first | exact h1 | exact Classical.not_not.mp h1)
            | exact Or.inr (Or.inl (by first | exact h7 | exact Classical.not_not.mp h7))
            | exact Or.inr (Or.inr (Or.inl (by first | exact h12 | exact Classical.not_not.mp h12)))
            | exact Or.inr (Or.inr (Or.inr (by first | exact h20 | exact Classical.not_not.mp h20)))

set_option maxRecDepth 100000 in
set_option maxHeartbeats 4000000 in
theorem c_X11_lot {G : pv_G} {d : Nat} {J : pv_I} {K : pv_L} {n : Int32} {p q : Int64} {t : pv_T} {I : pv_I} {L : pv_L} {Rf : pv_R} (hW : WF J K) (hX : RX J K t I L Rf)  (hd : 60 ≤ d) : pv_Mt G mX11_lot d 0 0 [.ref 16, .int n, .long p, .long q] t I L Rf (qX (S_lot J K n p q) I L) := by
  refine pv_mt mgX11_lot.2.2.2.2.2 [.ref 16, .int n, .long p, .retAddr 0, .long q, .retAddr 0] rfl (Nat.le_of_ble_eq_true rfl) ?_
  have hT := hX.1
  have hR := hX.2.1
  obtain ⟨-, -, ⟨xp, xq, xn, xst, xsp, xsd, xc⟩, xf, xs, xb, xi⟩ := id hX
  refine pv_iload_1 (pc := 0) dX11_lot_0 ?_
  refine pv_if_lt (pc := 1) (tgt := 19) dX11_lot_1 (by decide) (fun h1 => ?_) (fun h1 => ?_)
  · refine pv_aload_0 (pc := 19) dX11_lot_19 ?_
    refine pv_bipush (pc := 20) (v := 6) dX11_lot_20 (by decide) ?_
    refine pv_callV1 (pc := 22) dX11_lot_22 mgX11_refuse lv_X11_70_11 (by decide) (sx_16 hT) (by omega) (c_X11_refuse (k := 6) hT hR (by decide) (by unfold vp_in; decide)) rfl rfl (by decide) ?_
    refine pv_iret (pc := 25) dX11_lot_25 rfl rfl ?_
    refine qX.ref hX k_l6 ?_
    unfold S_lot
    rw [if_pos]
    first
      | exact Or.inl (by first | exact h1 | exact Classical.not_not.mp h1)
      | exact Or.inr (Or.inl (by first | exact h7 | exact Classical.not_not.mp h7))
      | (refine Or.inr (Or.inr ?_)
         cases g : s_num p q with
         | false => rfl
         | true => exact absurd (by first | exact h16 | exact Classical.not_not.mp h16) (by rw [g]; decide))
  · refine pv_iload_1 (pc := 4) dX11_lot_4 ?_
    refine pv_bipush (pc := 5) (v := 9) dX11_lot_5 (by decide) ?_
    refine pv_icmp_gt (pc := 7) (tgt := 19) dX11_lot_7 (by decide) (fun h7 => ?_) (fun h7 => ?_)
    · refine pv_aload_0 (pc := 19) dX11_lot_19 ?_
      refine pv_bipush (pc := 20) (v := 6) dX11_lot_20 (by decide) ?_
      refine pv_callV1 (pc := 22) dX11_lot_22 mgX11_refuse lv_X11_70_11 (by decide) (sx_16 hT) (by omega) (c_X11_refuse (k := 6) hT hR (by decide) (by unfold vp_in; decide)) rfl rfl (by decide) ?_
      refine pv_iret (pc := 25) dX11_lot_25 rfl rfl ?_
      refine qX.ref hX k_l6 ?_
      unfold S_lot
      rw [if_pos]
      first
        | exact Or.inl (by first | exact h1 | exact Classical.not_not.mp h1)
        | exact Or.inr (Or.inl (by first | exact h7 | exact Classical.not_not.mp h7))
        | (refine Or.inr (Or.inr ?_)
           cases g : s_num p q with
           | false => rfl
           | true => exact absurd (by first | exact h16 | exact Classical.not_not.mp h16) (by rw [g]; decide))
    · refine pv_lload_2 (pc := 10) dX11_lot_10 ?_
      refine pv_lload_4 (pc := 11) dX11_lot_11 ?_
      refine pv_callS1 (pc := 13) dX11_lot_13 mgX11_isNumber ls_X11_161 (by omega) (c_X11_isNumber hT (by omega)) rfl rfl (by decide) ?_
      refine pv_if_ne (pc := 16) (tgt := 26) dX11_lot_16 (by decide) (fun h16 => ?_) (fun h16 => ?_)
      · have q0 : (0 : Int32).toInt = 0 := by decide
        have q9 : (9 : Int32).toInt = 9 := by decide
        have n0 : 0 ≤ n.toInt := by
          have f1 : ¬ n < 0 := h1
          rw [i_lt] at f1; omega
        have n9 : n.toInt ≤ 9 := by
          have f1 : ¬ 9 < n := h7
          rw [i_lt] at f1; omega
        have nl := i_lit n
        have en : n = Int32.ofNat n.toNatClampNeg := by rw [← Int32.toInt_inj, i_of (by omega)]; omega
        have hnum : s_num p q = true := (pv_b_n0 _).mp h16
        refine pv_aload_0 (pc := 26) dX11_lot_26 ?_
        refine pv_iload_1 (pc := 27) dX11_lot_27 ?_
        refine pv_ldc2 (pc := 28) dX11_lot_28 k_X11_306 ?_
        refine pv_callVq (pc := 31) dX11_lot_31 mgX11_rowsOf lv_X11_299_11 (by decide) (sx_16 hT) (by omega) (c_rowsOf_n (N := n.toNatClampNeg) (b := 1000000000000000) en hT hR (by omega) xp xq hW.2.2.1 (by omega)) rfl rfl (by decide) (fun v t I L Rf hq => ?_)
        obtain ⟨⟨z, rfl, hz, hxx⟩, rfl, rfl, hk1⟩ := hq
        have hcr : cr_ok t Rf z := ag_cr hT hR hz
        have ez := i_nat (k := n.toNatClampNeg) (by omega)
        refine pv_lload_2 (pc := 34) dX11_lot_34 ?_
        refine pv_lload_4 (pc := 35) dX11_lot_35 ?_
        refine pv_callV1 (pc := 37) dX11_lot_37 mgX2_rowsTo lv_X11_308_2 hcr.1 hcr.2.1 (by omega) (c_X2_rowsTo hcr hxx (by omega)) rfl rfl (by decide) ?_
        refine pv_iret (pc := 40) dX11_lot_40 rfl rfl ?_
        refine qX.scr hX hk1 ?_
        unfold S_lot
        rw [if_neg (by rintro (g | g | g); exact h1 g; exact h7 g; rw [hnum] at g; cases g), ← x_lot hW.2.2.1 (n := n.toNatClampNeg) (by omega)]
      · refine pv_aload_0 (pc := 19) dX11_lot_19 ?_
        refine pv_bipush (pc := 20) (v := 6) dX11_lot_20 (by decide) ?_
        refine pv_callV1 (pc := 22) dX11_lot_22 mgX11_refuse lv_X11_70_11 (by decide) (sx_16 hT) (by omega) (c_X11_refuse (k := 6) hT hR (by decide) (by unfold vp_in; decide)) rfl rfl (by decide) ?_
        refine pv_iret (pc := 25) dX11_lot_25 rfl rfl ?_
        refine qX.ref hX k_l6 ?_
        unfold S_lot
        rw [if_pos]
        first
          | exact Or.inl (by first | exact h1 | exact Classical.not_not.mp h1)
          | exact Or.inr (Or.inl (by first | exact h7 | exact Classical.not_not.mp h7))
          | (refine Or.inr (Or.inr ?_)
             cases g : s_num p q with
             | false => rfl
             | true => exact absurd (by first | exact h16 | exact Classical.not_not.mp h16) (by rw [g]; decide))

