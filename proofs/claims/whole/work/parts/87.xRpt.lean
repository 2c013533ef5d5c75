/-! the class: repeated -/
theorem rep_main {J : pv_I} {K : pv_L} (hW : WF J K) (s n U : Nat) : ((w_rep J K s n U (K 0 0) (K 0 1) (J 4)).1 = true ↔ (y_go J (K (1 + s)) n U n (y_0 J K)).1 = n) ∧ ((w_rep J K s n U (K 0 0) (K 0 1) (J 4)).1 = true → (w_rep J K s n U (K 0 0) (K 0 1) (J 4)).2.1 = (y_go J (K (1 + s)) n U n (y_0 J K)).2.2.2.1 ∧ (w_rep J K s n U (K 0 0) (K 0 1) (J 4)).2.2.1 = (y_go J (K (1 + s)) n U n (y_0 J K)).2.2.2.2.1 ∧ (w_rep J K s n U (K 0 0) (K 0 1) (J 4)).2.2.2 = (y_go J (K (1 + s)) n U n (y_0 J K)).2.2.2.2.2) := rep_go hW s n U (K 0 0) (K 0 1) (J 4) (J 0 1) (J 0 2) hW.2.2.1

theorem i_012 {x : Int32} (h0 : ¬ x < 0) (h2 : ¬ 2 < x) : x = 0 ∨ x = 1 ∨ x = 2 := by
  simp only [i_lt, ← Int32.toInt_inj, (show (0 : Int32).toInt = 0 from by decide), (show (1 : Int32).toInt = 1 from by decide), (show (2 : Int32).toInt = 2 from by decide)] at *
  omega
set_option maxRecDepth 100000 in
set_option maxHeartbeats 4000000 in
theorem c_X11_repeated {G : pv_G} {d : Nat} {J : pv_I} {K : pv_L} {s n u x : Int32} {t : pv_T} {I : pv_I} {L : pv_L} {Rf : pv_R} (hW : WF J K) (hX : RX J K t I L Rf)  (hd : 60 ≤ d) : pv_Mt G mX11_repeated d 0 0 [.ref 16, .int s, .int n, .int u, .int x] t I L Rf (qX (S_repeated J K s n u x) I L) := by
  refine pv_mt mgX11_repeated.2.2.2.2.2 [.ref 16, .int s, .int n, .int u, .int x, .retAddr 0] rfl (Nat.le_of_ble_eq_true rfl) ?_
  have hT := hX.1
  have hR := hX.2.1
  obtain ⟨-, -, ⟨xp, xq, xn, xst, xsp, xsd, xc⟩, xf, xs, xb, xi⟩ := id hX
  by_cases hb : w_bars J s n = 0
  · by_cases hx0 : x < 0
    · have hx : x < 0 ∨ 2 < x := Or.inl hx0
      refine pv_aload_0 (pc := 0) dX11_repeated_0 ?_
      refine pv_iload_1 (pc := 1) dX11_repeated_1 ?_
      refine pv_iload_2 (pc := 2) dX11_repeated_2 ?_
      refine pv_callV1 (pc := 3) dX11_repeated_3 mgX11_noPart lv_X11_203_11 (by decide) (sx_16 hT) (by omega) (x_np0 hW hX hb (by omega)) rfl rfl (by decide) ?_
      refine pv_istore_5 (pc := 6) dX11_repeated_6 (by decide) rfl ?_
      refine pv_iload_5 (pc := 8) dX11_repeated_8 ?_
      refine pv_if_ne (pc := 10) (tgt := 27) dX11_repeated_10 (by decide) (fun q => absurd q (by decide)) (fun _ => ?_)
      refine pv_iload_4 (pc := 13) dX11_repeated_13 ?_
      refine pv_if_lt (pc := 15) (tgt := 24) dX11_repeated_15 (by decide) (fun h15 => ?_) (fun h15 => absurd h15 (not_not_intro hx0))
      refine pv_iconst (pc := 24) (v := 5) dX11_repeated_24 (by decide) ?_
      refine pv_istore_5 (pc := 25) dX11_repeated_25 (by decide) rfl ?_
      refine pv_iload_5 (pc := 27) dX11_repeated_27 ?_
      refine pv_if_ne (pc := 29) (tgt := 56) dX11_repeated_29 (by decide) (fun _ => ?_) (fun q => absurd q (by decide))
      refine pv_iload_5 (pc := 56) dX11_repeated_56 ?_
      refine pv_if_ne (pc := 58) (tgt := 75) dX11_repeated_58 (by decide) (fun _ => ?_) (fun q => absurd q (by decide))
      refine pv_iload_5 (pc := 75) dX11_repeated_75 ?_
      refine pv_if_eq (pc := 77) (tgt := 87) dX11_repeated_77 (by decide) (fun q => absurd q (by decide)) (fun _ => ?_)
      refine pv_aload_0 (pc := 80) dX11_repeated_80 ?_
      refine pv_iload_5 (pc := 81) dX11_repeated_81 ?_
      refine pv_callV1 (pc := 83) dX11_repeated_83 mgX11_refuseFar lv_X11_183_11 (by decide) (sx_16 hT) (by omega) (c_X11_refuseFar (k := 5) hT hR (by decide) (by unfold vp_in; decide) (by omega)) rfl rfl (by decide) ?_
      refine pv_lret (pc := 86) dX11_repeated_86 rfl ?_
      refine qX.ref hX (by decide : 5 < 8) ?_
      unfold S_repeated
      rw [if_pos hb, if_pos hx]
    · by_cases hx2 : 2 < x
      · have hx : x < 0 ∨ 2 < x := Or.inr hx2
        refine pv_aload_0 (pc := 0) dX11_repeated_0 ?_
        refine pv_iload_1 (pc := 1) dX11_repeated_1 ?_
        refine pv_iload_2 (pc := 2) dX11_repeated_2 ?_
        refine pv_callV1 (pc := 3) dX11_repeated_3 mgX11_noPart lv_X11_203_11 (by decide) (sx_16 hT) (by omega) (x_np0 hW hX hb (by omega)) rfl rfl (by decide) ?_
        refine pv_istore_5 (pc := 6) dX11_repeated_6 (by decide) rfl ?_
        refine pv_iload_5 (pc := 8) dX11_repeated_8 ?_
        refine pv_if_ne (pc := 10) (tgt := 27) dX11_repeated_10 (by decide) (fun q => absurd q (by decide)) (fun _ => ?_)
        refine pv_iload_4 (pc := 13) dX11_repeated_13 ?_
        refine pv_if_lt (pc := 15) (tgt := 24) dX11_repeated_15 (by decide) (fun h15 => absurd h15 hx0) (fun h15 => ?_)
        refine pv_iload_4 (pc := 18) dX11_repeated_18 ?_
        refine pv_iconst (pc := 20) (v := 2) dX11_repeated_20 (by decide) ?_
        refine pv_icmp_le (pc := 21) (tgt := 27) dX11_repeated_21 (by decide) (fun h21 => absurd h21 (not_not_intro hx2)) (fun h21 => ?_)
        refine pv_iconst (pc := 24) (v := 5) dX11_repeated_24 (by decide) ?_
        refine pv_istore_5 (pc := 25) dX11_repeated_25 (by decide) rfl ?_
        refine pv_iload_5 (pc := 27) dX11_repeated_27 ?_
        refine pv_if_ne (pc := 29) (tgt := 56) dX11_repeated_29 (by decide) (fun _ => ?_) (fun q => absurd q (by decide))
        refine pv_iload_5 (pc := 56) dX11_repeated_56 ?_
        refine pv_if_ne (pc := 58) (tgt := 75) dX11_repeated_58 (by decide) (fun _ => ?_) (fun q => absurd q (by decide))
        refine pv_iload_5 (pc := 75) dX11_repeated_75 ?_
        refine pv_if_eq (pc := 77) (tgt := 87) dX11_repeated_77 (by decide) (fun q => absurd q (by decide)) (fun _ => ?_)
        refine pv_aload_0 (pc := 80) dX11_repeated_80 ?_
        refine pv_iload_5 (pc := 81) dX11_repeated_81 ?_
        refine pv_callV1 (pc := 83) dX11_repeated_83 mgX11_refuseFar lv_X11_183_11 (by decide) (sx_16 hT) (by omega) (c_X11_refuseFar (k := 5) hT hR (by decide) (by unfold vp_in; decide) (by omega)) rfl rfl (by decide) ?_
        refine pv_lret (pc := 86) dX11_repeated_86 rfl ?_
        refine qX.ref hX (by decide : 5 < 8) ?_
        unfold S_repeated
        rw [if_pos hb, if_pos hx]
      · have hxx : ¬ (x < 0 ∨ 2 < x) := fun q => q.elim hx0 hx2
        by_cases hu0 : u < 0
        · have hu : u < 0 ∨ 10000 < u := Or.inl hu0
          refine pv_aload_0 (pc := 0) dX11_repeated_0 ?_
          refine pv_iload_1 (pc := 1) dX11_repeated_1 ?_
          refine pv_iload_2 (pc := 2) dX11_repeated_2 ?_
          refine pv_callV1 (pc := 3) dX11_repeated_3 mgX11_noPart lv_X11_203_11 (by decide) (sx_16 hT) (by omega) (x_np0 hW hX hb (by omega)) rfl rfl (by decide) ?_
          refine pv_istore_5 (pc := 6) dX11_repeated_6 (by decide) rfl ?_
          refine pv_iload_5 (pc := 8) dX11_repeated_8 ?_
          refine pv_if_ne (pc := 10) (tgt := 27) dX11_repeated_10 (by decide) (fun q => absurd q (by decide)) (fun _ => ?_)
          refine pv_iload_4 (pc := 13) dX11_repeated_13 ?_
          refine pv_if_lt (pc := 15) (tgt := 24) dX11_repeated_15 (by decide) (fun h15 => absurd h15 hx0) (fun h15 => ?_)
          refine pv_iload_4 (pc := 18) dX11_repeated_18 ?_
          refine pv_iconst (pc := 20) (v := 2) dX11_repeated_20 (by decide) ?_
          refine pv_icmp_le (pc := 21) (tgt := 27) dX11_repeated_21 (by decide) (fun h21 => ?_) (fun h21 => absurd h21 hx2)
          refine pv_iload_5 (pc := 27) dX11_repeated_27 ?_
          refine pv_if_ne (pc := 29) (tgt := 56) dX11_repeated_29 (by decide) (fun q => absurd q (by decide)) (fun _ => ?_)
          refine pv_iload_3 (pc := 32) dX11_repeated_32 ?_
          refine pv_if_lt (pc := 33) (tgt := 52) dX11_repeated_33 (by decide) (fun h33 => ?_) (fun h33 => absurd h33 (not_not_intro hu0))
          refine pv_bipush (pc := 52) (v := 6) dX11_repeated_52 (by decide) ?_
          refine pv_istore_5 (pc := 54) dX11_repeated_54 (by decide) rfl ?_
          refine pv_iload_5 (pc := 56) dX11_repeated_56 ?_
          refine pv_if_ne (pc := 58) (tgt := 75) dX11_repeated_58 (by decide) (fun _ => ?_) (fun q => absurd q (by decide))
          refine pv_iload_5 (pc := 75) dX11_repeated_75 ?_
          refine pv_if_eq (pc := 77) (tgt := 87) dX11_repeated_77 (by decide) (fun q => absurd q (by decide)) (fun _ => ?_)
          refine pv_aload_0 (pc := 80) dX11_repeated_80 ?_
          refine pv_iload_5 (pc := 81) dX11_repeated_81 ?_
          refine pv_callV1 (pc := 83) dX11_repeated_83 mgX11_refuseFar lv_X11_183_11 (by decide) (sx_16 hT) (by omega) (c_X11_refuseFar (k := 6) hT hR (by decide) (by unfold vp_in; decide) (by omega)) rfl rfl (by decide) ?_
          refine pv_lret (pc := 86) dX11_repeated_86 rfl ?_
          refine qX.ref hX (by decide : 6 < 8) ?_
          unfold S_repeated
          rw [if_pos hb, if_neg hxx, if_pos hu]
        · by_cases hu1 : 10000 < u
          · have hu : u < 0 ∨ 10000 < u := Or.inr hu1
            refine pv_aload_0 (pc := 0) dX11_repeated_0 ?_
            refine pv_iload_1 (pc := 1) dX11_repeated_1 ?_
            refine pv_iload_2 (pc := 2) dX11_repeated_2 ?_
            refine pv_callV1 (pc := 3) dX11_repeated_3 mgX11_noPart lv_X11_203_11 (by decide) (sx_16 hT) (by omega) (x_np0 hW hX hb (by omega)) rfl rfl (by decide) ?_
            refine pv_istore_5 (pc := 6) dX11_repeated_6 (by decide) rfl ?_
            refine pv_iload_5 (pc := 8) dX11_repeated_8 ?_
            refine pv_if_ne (pc := 10) (tgt := 27) dX11_repeated_10 (by decide) (fun q => absurd q (by decide)) (fun _ => ?_)
            refine pv_iload_4 (pc := 13) dX11_repeated_13 ?_
            refine pv_if_lt (pc := 15) (tgt := 24) dX11_repeated_15 (by decide) (fun h15 => absurd h15 hx0) (fun h15 => ?_)
            refine pv_iload_4 (pc := 18) dX11_repeated_18 ?_
            refine pv_iconst (pc := 20) (v := 2) dX11_repeated_20 (by decide) ?_
            refine pv_icmp_le (pc := 21) (tgt := 27) dX11_repeated_21 (by decide) (fun h21 => ?_) (fun h21 => absurd h21 hx2)
            refine pv_iload_5 (pc := 27) dX11_repeated_27 ?_
            refine pv_if_ne (pc := 29) (tgt := 56) dX11_repeated_29 (by decide) (fun q => absurd q (by decide)) (fun _ => ?_)
            refine pv_iload_3 (pc := 32) dX11_repeated_32 ?_
            refine pv_if_lt (pc := 33) (tgt := 52) dX11_repeated_33 (by decide) (fun h33 => absurd h33 hu0) (fun h33 => ?_)
            refine pv_iload_3 (pc := 36) dX11_repeated_36 ?_
            refine pv_sipush (pc := 37) (v := 10000) dX11_repeated_37 (by decide) ?_
            refine pv_icmp_gt (pc := 40) (tgt := 52) dX11_repeated_40 (by decide) (fun h40 => ?_) (fun h40 => absurd h40 (not_not_intro hu1))
            refine pv_bipush (pc := 52) (v := 6) dX11_repeated_52 (by decide) ?_
            refine pv_istore_5 (pc := 54) dX11_repeated_54 (by decide) rfl ?_
            refine pv_iload_5 (pc := 56) dX11_repeated_56 ?_
            refine pv_if_ne (pc := 58) (tgt := 75) dX11_repeated_58 (by decide) (fun _ => ?_) (fun q => absurd q (by decide))
            refine pv_iload_5 (pc := 75) dX11_repeated_75 ?_
            refine pv_if_eq (pc := 77) (tgt := 87) dX11_repeated_77 (by decide) (fun q => absurd q (by decide)) (fun _ => ?_)
            refine pv_aload_0 (pc := 80) dX11_repeated_80 ?_
            refine pv_iload_5 (pc := 81) dX11_repeated_81 ?_
            refine pv_callV1 (pc := 83) dX11_repeated_83 mgX11_refuseFar lv_X11_183_11 (by decide) (sx_16 hT) (by omega) (c_X11_refuseFar (k := 6) hT hR (by decide) (by unfold vp_in; decide) (by omega)) rfl rfl (by decide) ?_
            refine pv_lret (pc := 86) dX11_repeated_86 rfl ?_
            refine qX.ref hX (by decide : 6 < 8) ?_
            unfold S_repeated
            rw [if_pos hb, if_neg hxx, if_pos hu]
          · have huu : ¬ (u < 0 ∨ 10000 < u) := fun q => q.elim hu0 hu1
            cases hfg : w_figB J K s.toNatClampNeg n.toNatClampNeg with
            | false =>
              skip
              refine pv_aload_0 (pc := 0) dX11_repeated_0 ?_
              refine pv_iload_1 (pc := 1) dX11_repeated_1 ?_
              refine pv_iload_2 (pc := 2) dX11_repeated_2 ?_
              refine pv_callV1 (pc := 3) dX11_repeated_3 mgX11_noPart lv_X11_203_11 (by decide) (sx_16 hT) (by omega) (x_np0 hW hX hb (by omega)) rfl rfl (by decide) ?_
              refine pv_istore_5 (pc := 6) dX11_repeated_6 (by decide) rfl ?_
              refine pv_iload_5 (pc := 8) dX11_repeated_8 ?_
              refine pv_if_ne (pc := 10) (tgt := 27) dX11_repeated_10 (by decide) (fun q => absurd q (by decide)) (fun _ => ?_)
              refine pv_iload_4 (pc := 13) dX11_repeated_13 ?_
              refine pv_if_lt (pc := 15) (tgt := 24) dX11_repeated_15 (by decide) (fun h15 => absurd h15 hx0) (fun h15 => ?_)
              refine pv_iload_4 (pc := 18) dX11_repeated_18 ?_
              refine pv_iconst (pc := 20) (v := 2) dX11_repeated_20 (by decide) ?_
              refine pv_icmp_le (pc := 21) (tgt := 27) dX11_repeated_21 (by decide) (fun h21 => ?_) (fun h21 => absurd h21 hx2)
              refine pv_iload_5 (pc := 27) dX11_repeated_27 ?_
              refine pv_if_ne (pc := 29) (tgt := 56) dX11_repeated_29 (by decide) (fun q => absurd q (by decide)) (fun _ => ?_)
              refine pv_iload_3 (pc := 32) dX11_repeated_32 ?_
              refine pv_if_lt (pc := 33) (tgt := 52) dX11_repeated_33 (by decide) (fun h33 => absurd h33 hu0) (fun h33 => ?_)
              refine pv_iload_3 (pc := 36) dX11_repeated_36 ?_
              refine pv_sipush (pc := 37) (v := 10000) dX11_repeated_37 (by decide) ?_
              refine pv_icmp_gt (pc := 40) (tgt := 52) dX11_repeated_40 (by decide) (fun h40 => absurd h40 hu1) (fun h40 => ?_)
              refine pv_aload_0 (pc := 43) dX11_repeated_43 ?_
              refine pv_iload_1 (pc := 44) dX11_repeated_44 ?_
              refine pv_iload_2 (pc := 45) dX11_repeated_45 ?_
              refine pv_callV1 (pc := 46) dX11_repeated_46 mgX11_areFigures lv_X11_213_11 (by decide) (sx_16 hT) (by omega) (c_X11_areFigures hW hX hb (by omega)) rfl rfl (by decide) ?_
              refine pv_if_ne (pc := 49) (tgt := 56) dX11_repeated_49 (by decide) (fun h49 => absurd h49 (not_not_intro (by rw [hfg]; rfl))) (fun h49 => ?_)
              refine pv_bipush (pc := 52) (v := 6) dX11_repeated_52 (by decide) ?_
              refine pv_istore_5 (pc := 54) dX11_repeated_54 (by decide) rfl ?_
              refine pv_iload_5 (pc := 56) dX11_repeated_56 ?_
              refine pv_if_ne (pc := 58) (tgt := 75) dX11_repeated_58 (by decide) (fun _ => ?_) (fun q => absurd q (by decide))
              refine pv_iload_5 (pc := 75) dX11_repeated_75 ?_
              refine pv_if_eq (pc := 77) (tgt := 87) dX11_repeated_77 (by decide) (fun q => absurd q (by decide)) (fun _ => ?_)
              refine pv_aload_0 (pc := 80) dX11_repeated_80 ?_
              refine pv_iload_5 (pc := 81) dX11_repeated_81 ?_
              refine pv_callV1 (pc := 83) dX11_repeated_83 mgX11_refuseFar lv_X11_183_11 (by decide) (sx_16 hT) (by omega) (c_X11_refuseFar (k := 6) hT hR (by decide) (by unfold vp_in; decide) (by omega)) rfl rfl (by decide) ?_
              refine pv_lret (pc := 86) dX11_repeated_86 rfl ?_
              refine qX.ref hX (by decide : 6 < 8) ?_
              unfold S_repeated
              rw [if_pos hb, if_neg hxx, if_neg huu, if_neg (by rw [hfg]; decide)]
            | true =>
              obtain ⟨hin, hs8, n0, n160, -, -, -⟩ := w_bars_x hW hX hb
              have hfgs := figs_of hW ((w_figB_iff J K s.toNatClampNeg n.toNatClampNeg).mp hfg)
              obtain ⟨U, eU⟩ : ∃ U, U = u.toNatClampNeg := ⟨_, rfl⟩
              have u1 : u.toInt ≤ 10000 := by
                rw [i_lt, show (10000 : Int32).toInt = 10000 by decide] at hu1
                omega
              have hU : u.toInt = U := by
                have ul := i_lit u
                rw [i_lt, Int32.toInt_zero] at hu0
                omega
              refine pv_aload_0 (pc := 0) dX11_repeated_0 ?_
              refine pv_iload_1 (pc := 1) dX11_repeated_1 ?_
              refine pv_iload_2 (pc := 2) dX11_repeated_2 ?_
              refine pv_callV1 (pc := 3) dX11_repeated_3 mgX11_noPart lv_X11_203_11 (by decide) (sx_16 hT) (by omega) (x_np0 hW hX hb (by omega)) rfl rfl (by decide) ?_
              refine pv_istore_5 (pc := 6) dX11_repeated_6 (by decide) rfl ?_
              refine pv_iload_5 (pc := 8) dX11_repeated_8 ?_
              refine pv_if_ne (pc := 10) (tgt := 27) dX11_repeated_10 (by decide) (fun q => absurd q (by decide)) (fun _ => ?_)
              refine pv_iload_4 (pc := 13) dX11_repeated_13 ?_
              refine pv_if_lt (pc := 15) (tgt := 24) dX11_repeated_15 (by decide) (fun h15 => absurd h15 hx0) (fun h15 => ?_)
              refine pv_iload_4 (pc := 18) dX11_repeated_18 ?_
              refine pv_iconst (pc := 20) (v := 2) dX11_repeated_20 (by decide) ?_
              refine pv_icmp_le (pc := 21) (tgt := 27) dX11_repeated_21 (by decide) (fun h21 => ?_) (fun h21 => absurd h21 hx2)
              refine pv_iload_5 (pc := 27) dX11_repeated_27 ?_
              refine pv_if_ne (pc := 29) (tgt := 56) dX11_repeated_29 (by decide) (fun q => absurd q (by decide)) (fun _ => ?_)
              refine pv_iload_3 (pc := 32) dX11_repeated_32 ?_
              refine pv_if_lt (pc := 33) (tgt := 52) dX11_repeated_33 (by decide) (fun h33 => absurd h33 hu0) (fun h33 => ?_)
              refine pv_iload_3 (pc := 36) dX11_repeated_36 ?_
              refine pv_sipush (pc := 37) (v := 10000) dX11_repeated_37 (by decide) ?_
              refine pv_icmp_gt (pc := 40) (tgt := 52) dX11_repeated_40 (by decide) (fun h40 => absurd h40 hu1) (fun h40 => ?_)
              refine pv_aload_0 (pc := 43) dX11_repeated_43 ?_
              refine pv_iload_1 (pc := 44) dX11_repeated_44 ?_
              refine pv_iload_2 (pc := 45) dX11_repeated_45 ?_
              refine pv_callV1 (pc := 46) dX11_repeated_46 mgX11_areFigures lv_X11_213_11 (by decide) (sx_16 hT) (by omega) (c_X11_areFigures hW hX hb (by omega)) rfl rfl (by decide) ?_
              refine pv_if_ne (pc := 49) (tgt := 56) dX11_repeated_49 (by decide) (fun h49 => ?_) (fun h49 => absurd h49 (by rw [hfg]; decide))
              refine pv_iload_5 (pc := 56) dX11_repeated_56 ?_
              refine pv_if_ne (pc := 58) (tgt := 75) dX11_repeated_58 (by decide) (fun q => absurd q (by decide)) (fun _ => ?_)
              refine pv_aload_0 (pc := 61) dX11_repeated_61 ?_
              refine pv_iload_1 (pc := 62) dX11_repeated_62 ?_
              refine pv_iload_2 (pc := 63) dX11_repeated_63 ?_
              refine pv_iload_3 (pc := 64) dX11_repeated_64 ?_
              refine pv_callVq (pc := 65) dX11_repeated_65 mgX11_tryOften lv_X11_216_11 (by decide) (sx_16 hT) (by omega) (c_X11_tryOften (U := U) hW hX hb hfgs hU u1 (by omega)) rfl rfl (by decide) (fun v t I L Rf hq => ?_)
              obtain ⟨hres, rfl, rfl, hk⟩ := hq
              have hmain := rep_main hW s.toNatClampNeg n.toNatClampNeg U
              rcases hres with ⟨rfl, hok, y, hx, y1, y2, y3⟩ | ⟨rfl, hno⟩
              · have hyes := hmain.1.mpr hok
                obtain ⟨r1, r2, r3⟩ := hmain.2 hyes
                have hx4 : x = 0 ∨ x = 1 ∨ x = 2 := i_012 hx0 hx2
                rcases hx4 with rfl | rfl | rfl
                · skip
                  refine pv_if_ne (pc := 68) (tgt := 75) dX11_repeated_68 (by decide) (fun _ => ?_) (fun q => absurd q (by decide))
                  refine pv_iload_5 (pc := 75) dX11_repeated_75 ?_
                  refine pv_if_eq (pc := 77) (tgt := 87) dX11_repeated_77 (by decide) (fun _ => ?_) (fun q => absurd q (by decide))
                  refine pv_iload_4 (pc := 87) dX11_repeated_87 ?_
                  refine pv_iconst (pc := 89) (v := 2) dX11_repeated_89 (by decide) ?_
                  refine pv_icmp_ne (pc := 90) (tgt := 104) dX11_repeated_90 (by decide) (fun _ => ?_) (fun q => absurd q (by decide))
                  refine pv_iload_4 (pc := 104) dX11_repeated_104 ?_
                  refine pv_if_ne (pc := 106) (tgt := 119) dX11_repeated_106 (by decide) (fun q => absurd q (by decide)) (fun _ => ?_)
                  refine pv_aload_0 (pc := 109) dX11_repeated_109 ?_
                  refine pv_getR (pc := 110) dX11_repeated_110 fg_X11_38_11 rfl (by decide) (sx_16 hT) (rx_16_6 hR) ?_
                  refine pv_getL (pc := 113) dX11_repeated_113 fg_X11_186_4 (by decide) (sx_25 hT) ?_
                  refine pv_goto (pc := 116) (tgt := 126) dX11_repeated_116 (by decide) ?_
                  refine pv_lret (pc := 126) dX11_repeated_126 rfl ?_
                  refine qX.scr hX hk ?_
                  unfold S_repeated
                  rw [if_pos hb, if_neg hxx, if_neg huu, if_pos hfg, ← eU, if_pos hyes]
                  show ((.long (w_rep J K s.toNatClampNeg n.toNatClampNeg U (K 0 0) (K 0 1) (J 4)).2.1, J, K) : SR) = _
                  rw [r1]
                  rw [← y1]
                  exact congrArg (fun z => ((Value.long z, J, K) : SR)) (hx.1).symm
                · skip
                  refine pv_if_ne (pc := 68) (tgt := 75) dX11_repeated_68 (by decide) (fun _ => ?_) (fun q => absurd q (by decide))
                  refine pv_iload_5 (pc := 75) dX11_repeated_75 ?_
                  refine pv_if_eq (pc := 77) (tgt := 87) dX11_repeated_77 (by decide) (fun _ => ?_) (fun q => absurd q (by decide))
                  refine pv_iload_4 (pc := 87) dX11_repeated_87 ?_
                  refine pv_iconst (pc := 89) (v := 2) dX11_repeated_89 (by decide) ?_
                  refine pv_icmp_ne (pc := 90) (tgt := 104) dX11_repeated_90 (by decide) (fun _ => ?_) (fun q => absurd q (by decide))
                  refine pv_iload_4 (pc := 104) dX11_repeated_104 ?_
                  refine pv_if_ne (pc := 106) (tgt := 119) dX11_repeated_106 (by decide) (fun _ => ?_) (fun q => absurd q (by decide))
                  refine pv_aload_0 (pc := 119) dX11_repeated_119 ?_
                  refine pv_getR (pc := 120) dX11_repeated_120 fg_X11_38_11 rfl (by decide) (sx_16 hT) (rx_16_6 hR) ?_
                  refine pv_getL (pc := 123) dX11_repeated_123 fg_X11_190_4 (by decide) (sx_25 hT) ?_
                  refine pv_lret (pc := 126) dX11_repeated_126 rfl ?_
                  refine qX.scr hX hk ?_
                  unfold S_repeated
                  rw [if_pos hb, if_neg hxx, if_neg huu, if_pos hfg, ← eU, if_pos hyes]
                  show ((.long (w_rep J K s.toNatClampNeg n.toNatClampNeg U (K 0 0) (K 0 1) (J 4)).2.2.1, J, K) : SR) = _
                  rw [r2]
                  rw [← y2]
                  exact congrArg (fun z => ((Value.long z, J, K) : SR)) (hx.2.1).symm
                · skip
                  refine pv_if_ne (pc := 68) (tgt := 75) dX11_repeated_68 (by decide) (fun _ => ?_) (fun q => absurd q (by decide))
                  refine pv_iload_5 (pc := 75) dX11_repeated_75 ?_
                  refine pv_if_eq (pc := 77) (tgt := 87) dX11_repeated_77 (by decide) (fun _ => ?_) (fun q => absurd q (by decide))
                  refine pv_iload_4 (pc := 87) dX11_repeated_87 ?_
                  refine pv_iconst (pc := 89) (v := 2) dX11_repeated_89 (by decide) ?_
                  refine pv_icmp_ne (pc := 90) (tgt := 104) dX11_repeated_90 (by decide) (fun q => absurd q (by decide)) (fun _ => ?_)
                  refine pv_aload_0 (pc := 93) dX11_repeated_93 ?_
                  refine pv_getR (pc := 94) dX11_repeated_94 fg_X11_38_11 rfl (by decide) (sx_16 hT) (rx_16_6 hR) ?_
                  refine pv_getR (pc := 97) dX11_repeated_97 fg_X11_193_4 rfl (by decide) (sx_25 hT) (rx_25_0 hR) ?_
                  refine pv_iconst (pc := 100) (v := 0) dX11_repeated_100 (by decide) ?_
                  refine pv_ialoadj (pc := 101) dX11_repeated_101 (sx_26 hT) (j := 0) (by decide) (by unfold vp_in; decide) ?_
                  refine pv_i2l (pc := 102) dX11_repeated_102 ?_
                  refine pv_lret (pc := 103) dX11_repeated_103 rfl ?_
                  refine qX.scr hX hk ?_
                  unfold S_repeated
                  rw [if_pos hb, if_neg hxx, if_neg huu, if_pos hfg, ← eU, if_pos hyes]
                  show ((.long ((w_rep J K s.toNatClampNeg n.toNatClampNeg U (K 0 0) (K 0 1) (J 4)).2.2.2 0).toInt64, J, K) : SR) = _
                  rw [r3]
                  rw [← y3]
                  exact congrArg (fun z => ((Value.long (Int32.toInt64 z), J, K) : SR)) (hx.2.2.2.2.2.2 0 (by decide)).symm
              · skip
                refine pv_if_ne (pc := 68) (tgt := 75) dX11_repeated_68 (by decide) (fun q => absurd q (by decide)) (fun _ => ?_)
                refine pv_bipush (pc := 71) (v := 7) dX11_repeated_71 (by decide) ?_
                refine pv_istore_5 (pc := 73) dX11_repeated_73 (by decide) rfl ?_
                refine pv_iload_5 (pc := 75) dX11_repeated_75 ?_
                refine pv_if_eq (pc := 77) (tgt := 87) dX11_repeated_77 (by decide) (fun q => absurd q (by decide)) (fun _ => ?_)
                refine pv_aload_0 (pc := 80) dX11_repeated_80 ?_
                refine pv_iload_5 (pc := 81) dX11_repeated_81 ?_
                refine pv_callV1 (pc := 83) dX11_repeated_83 mgX11_refuseFar lv_X11_183_11 (by decide) (sx_16 hT) (by omega) (c_X11_refuseFar (k := 7) hT hR (by decide) (by unfold vp_in; decide) (by omega)) rfl rfl (by decide) ?_
                refine pv_lret (pc := 86) dX11_repeated_86 rfl ?_
                have hno2 : ¬ (w_rep J K s.toNatClampNeg n.toNatClampNeg U (K 0 0) (K 0 1) (J 4)).1 = true := fun q => hno (hmain.1.mp q)
                refine qX.scrref hX hk (by decide : 7 < 8) ?_
                unfold S_repeated
                rw [if_pos hb, if_neg hxx, if_neg huu, if_pos hfg, ← eU, if_neg hno2]
  · have hnb : ¬ -(w_bars J s n) = 0 := fun q => hb (w_bars_z q)
    refine pv_aload_0 (pc := 0) dX11_repeated_0 ?_
    refine pv_iload_1 (pc := 1) dX11_repeated_1 ?_
    refine pv_iload_2 (pc := 2) dX11_repeated_2 ?_
    refine pv_callV1 (pc := 3) dX11_repeated_3 mgX11_noPart lv_X11_203_11 (by decide) (sx_16 hT) (by omega) (c_X11_noPart hW hX (by omega)) rfl rfl (by decide) ?_
    refine pv_istore_5 (pc := 6) dX11_repeated_6 (by decide) rfl ?_
    refine pv_iload_5 (pc := 8) dX11_repeated_8 ?_
    refine pv_if_ne (pc := 10) (tgt := 27) dX11_repeated_10 (by decide) (fun h10 => ?_) (fun h10 => absurd h10 hnb)
    refine pv_iload_5 (pc := 27) dX11_repeated_27 ?_
    refine pv_if_ne (pc := 29) (tgt := 56) dX11_repeated_29 (by decide) (fun h29 => ?_) (fun h29 => absurd h29 hnb)
    refine pv_iload_5 (pc := 56) dX11_repeated_56 ?_
    refine pv_if_ne (pc := 58) (tgt := 75) dX11_repeated_58 (by decide) (fun h58 => ?_) (fun h58 => absurd h58 hnb)
    refine pv_iload_5 (pc := 75) dX11_repeated_75 ?_
    refine pv_if_eq (pc := 77) (tgt := 87) dX11_repeated_77 (by decide) (fun h77 => absurd h77 hnb) (fun h77 => ?_)
    refine pv_aload_0 (pc := 80) dX11_repeated_80 ?_
    refine pv_iload_5 (pc := 81) dX11_repeated_81 ?_
    refine pv_callV1 (pc := 83) dX11_repeated_83 mgX11_refuseFar lv_X11_183_11 (by decide) (sx_16 hT) (by omega) (c_X11_refuseFar (k := (-(w_bars J s n)).toNatClampNeg) hT hR rfl (w_bars_in J s n) (by omega)) rfl rfl (by decide) ?_
    refine pv_lret (pc := 86) dX11_repeated_86 rfl ?_
    refine qX.ref hX (w_bars_n s n) ?_
    unfold S_repeated
    rw [if_neg hb, x_neg2]

