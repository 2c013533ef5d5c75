/-! the class: what is asked ahead -/
theorem x_kind {J : pv_I} {K : pv_L} {t : pv_T} {I : pv_I} {L : pv_L} {Rf : pv_R} (hW : WF J K) (hX : RX J K t I L Rf) {s : Nat} (hs : s < 8) : (J 6 s = 0 ∧ I (45 + 2 * s) 1 = -1 ∧ I (45 + 2 * s) 2 = 0 ∧ I (45 + 2 * s) 3 = -1) ∨ (J 6 s = 1 ∧ I (45 + 2 * s) 1 = J 7 s ∧ I (45 + 2 * s) 2 = J 8 s ∧ I (45 + 2 * s) 3 = -1 ∧ ¬ J 7 s = -1 ∧ (0 ≤ (J 8 s).toInt ∧ (J 8 s).toInt ≤ 160) ∧ ∀ j, j < 160 → L (46 + 2 * s) j = K (1 + s) j) ∨ (J 6 s = 2 ∧ I (45 + 2 * s) 1 = -1 ∧ I (45 + 2 * s) 2 = 0 ∧ I (45 + 2 * s) 3 = J 9 s ∧ ¬ J 9 s = -1) := by
  obtain ⟨w1, w2, w3⟩ := hW.2.2.2.1 s hs
  obtain ⟨x0, x1, x2⟩ := hX.2.2.2.2.1 s hs
  rcases w1 with w | w | w
  · exact Or.inl ⟨w, x0 w⟩
  · obtain ⟨a1, a2, a3, a4⟩ := x1 w
    obtain ⟨b1, b2, b3, b4⟩ := w2 w
    exact Or.inr (Or.inl ⟨w, a1, a2, a3, (fun q => by rw [q] at b1; exact absurd b1 (by decide)), ⟨b3, b4⟩, a4⟩)
  · obtain ⟨a1, a2, a3⟩ := x2 w
    obtain ⟨b1, b2⟩ := w3 w
    exact Or.inr (Or.inr ⟨w, a1, a2, a3, (fun q => by rw [q] at b1; exact absurd b1 (by decide))⟩)
theorem w_wants_k {J : pv_I} {s : Int32} (h : s_sh s = true) : (J 6 s.toNatClampNeg = 0 → w_wants J s = -3) ∧ (J 6 s.toNatClampNeg = 1 → w_wants J s = 0) ∧ (J 6 s.toNatClampNeg = 2 → w_wants J s = -2) := by
  unfold w_wants w_sh
  rw [if_pos h]
  refine ⟨fun q => ?_, fun q => ?_, fun q => ?_⟩
  · rw [q, if_neg (by decide), if_pos rfl]
  · rw [q, if_neg (by decide), if_neg (by decide)]
  · rw [q, if_pos rfl]
theorem w_wants_n0 {J : pv_I} {s : Int32} (h : s_sh s = false) : w_wants J s = -1 := by unfold w_wants; rw [if_neg (by rw [h]; decide)]

set_option maxRecDepth 100000 in
set_option maxHeartbeats 4000000 in
theorem c_X11_noRow {G : pv_G} {d : Nat} {J : pv_I} {K : pv_L} {s : Int32} {t : pv_T} {I : pv_I} {L : pv_L} {Rf : pv_R} (hW : WF J K) (hX : RX J K t I L Rf)  (hd : 3 ≤ d) : pv_Mt G mX11_noRow d 0 0 [.ref 16, .int s] t I L Rf (pv_is (some (.int (-(w_wants J s)))) t I L Rf) := by
  refine pv_mt mgX11_noRow.2.2.2.2.2 [.ref 16, .int s, .retAddr 0] rfl (Nat.le_of_ble_eq_true rfl) ?_
  have hT := hX.1
  have hR := hX.2.1
  obtain ⟨-, -, ⟨xp, xq, xn, xst, xsp, xsd, xc⟩, xf, xs, xb, xi⟩ := id hX
  by_cases hs : s_sh s = true
  · have hin := s_sh_in hs
    have hs8 : s.toNatClampNeg < 8 := (pv_in_lt hin).2.2.1
    have hkd := x_kind hW hX hs8
    refine pv_aload_0 (pc := 0) dX11_noRow_0 ?_
    refine pv_iload_1 (pc := 1) dX11_noRow_1 ?_
    refine pv_callV1 (pc := 2) dX11_noRow_2 mgX11_shelfAt lv_X11_66_11 (by decide) (sx_16 hT) (by omega) (c_X11_shelfAt1 hT hR hin) rfl rfl (by decide) ?_
    refine pv_astore_2 (pc := 5) dX11_noRow_5 (by decide) rfl ?_
    refine pv_aload_2 (pc := 6) dX11_noRow_6 ?_
    refine pv_ifnonnull (pc := 7) (tgt := 12) dX11_noRow_7 (by decide) ?_
    refine pv_aload_2 (pc := 12) dX11_noRow_12 ?_
    refine pv_callV1 (pc := 13) dX11_noRow_13 mgX8_isRow lv_X11_122_8 (by omega) (sx_sh hT hs8) (by omega) (c_X8_isRow hT hR hs8) rfl rfl (by decide) ?_
    refine pv_if_eq (pc := 16) (tgt := 21) dX11_noRow_16 (by decide) (fun h16 => ?_) (fun h16 => ?_)
    · refine pv_aload_2 (pc := 21) dX11_noRow_21 ?_
      refine pv_getI (pc := 22) dX11_noRow_22 fg_X11_126_8 rfl (by omega) (sx_sh hT hs8) ?_
      refine pv_iconst (pc := 25) (v := (-1)) dX11_noRow_25 (by decide) ?_
      refine pv_icmp_ne (pc := 26) (tgt := 33) dX11_noRow_26 (by decide) (fun h26 => ?_) (fun h26 => ?_)
      · refine pv_iconst (pc := 33) (v := 2) dX11_noRow_33 (by decide) ?_
        refine pv_iret (pc := 34) dX11_noRow_34 rfl rfl ?_
        refine ⟨congrArg (fun z => some (Value.int z)) ?_, rfl, rfl, rfl, rfl⟩
        rcases hkd with ⟨k1, k2, k3, k4⟩ | ⟨k1, k2, k3, k4, k5, k6, k7⟩ | ⟨k1, k2, k3, k4, k5⟩
        · rw [(w_wants_k hs).1 k1]
          first
            | (have f1 := h16; rw [k2] at f1; exact absurd f1 (by decide))
            | (have f1 := h26; rw [k4] at f1; exact absurd f1 (by decide))
            | rfl
        · rw [(w_wants_k hs).2.1 k1]
          first
            | rfl
            | (have f1 := h16; rw [k2, decide_eq_false k5] at f1; exact absurd f1 (by decide))
        · rw [(w_wants_k hs).2.2 k1]
          first
            | rfl
            | (have f1 := h16; rw [k2] at f1; exact absurd f1 (by decide))
            | (have f1 := h26; rw [k4] at f1; exact absurd (by first | exact f1 | exact Classical.not_not.mp f1) k5)
      · refine pv_iconst (pc := 29) (v := 3) dX11_noRow_29 (by decide) ?_
        refine pv_goto (pc := 30) (tgt := 34) dX11_noRow_30 (by decide) ?_
        refine pv_iret (pc := 34) dX11_noRow_34 rfl rfl ?_
        refine ⟨congrArg (fun z => some (Value.int z)) ?_, rfl, rfl, rfl, rfl⟩
        rcases hkd with ⟨k1, k2, k3, k4⟩ | ⟨k1, k2, k3, k4, k5, k6, k7⟩ | ⟨k1, k2, k3, k4, k5⟩
        · rw [(w_wants_k hs).1 k1]
          first
            | (have f1 := h16; rw [k2] at f1; exact absurd f1 (by decide))
            | (have f1 := h26; rw [k4] at f1; exact absurd f1 (by decide))
            | rfl
        · rw [(w_wants_k hs).2.1 k1]
          first
            | rfl
            | (have f1 := h16; rw [k2, decide_eq_false k5] at f1; exact absurd f1 (by decide))
        · rw [(w_wants_k hs).2.2 k1]
          first
            | rfl
            | (have f1 := h16; rw [k2] at f1; exact absurd f1 (by decide))
            | (have f1 := h26; rw [k4] at f1; exact absurd (by first | exact f1 | exact Classical.not_not.mp f1) k5)
    · refine pv_iconst (pc := 19) (v := 0) dX11_noRow_19 (by decide) ?_
      refine pv_iret (pc := 20) dX11_noRow_20 rfl rfl ?_
      refine ⟨congrArg (fun z => some (Value.int z)) ?_, rfl, rfl, rfl, rfl⟩
      rcases hkd with ⟨k1, k2, k3, k4⟩ | ⟨k1, k2, k3, k4, k5, k6, k7⟩ | ⟨k1, k2, k3, k4, k5⟩
      · rw [(w_wants_k hs).1 k1]
        first
          | (have f1 := h16; rw [k2] at f1; exact absurd f1 (by decide))
          | (have f1 := h26; rw [k4] at f1; exact absurd f1 (by decide))
          | rfl
      · rw [(w_wants_k hs).2.1 k1]
        first
          | rfl
          | (have f1 := h16; rw [k2, decide_eq_false k5] at f1; exact absurd f1 (by decide))
      · rw [(w_wants_k hs).2.2 k1]
        first
          | rfl
          | (have f1 := h16; rw [k2] at f1; exact absurd f1 (by decide))
          | (have f1 := h26; rw [k4] at f1; exact absurd (by first | exact f1 | exact Classical.not_not.mp f1) k5)
  · have hs0 : s_sh s = false := by simpa using hs
    refine pv_aload_0 (pc := 0) dX11_noRow_0 ?_
    refine pv_iload_1 (pc := 1) dX11_noRow_1 ?_
    refine pv_callV1 (pc := 2) dX11_noRow_2 mgX11_shelfAt lv_X11_66_11 (by decide) (sx_16 hT) (by omega) (c_X11_shelfAt0 hT hR hs0) rfl rfl (by decide) ?_
    refine pv_astoreN_2 (pc := 5) dX11_noRow_5 (by decide) rfl ?_
    refine pv_aloadN_2 (pc := 6) dX11_noRow_6 ?_
    refine pv_ifnonnullN (pc := 7) dX11_noRow_7 ?_
    refine pv_iconst (pc := 10) (v := 1) dX11_noRow_10 (by decide) ?_
    refine pv_iret (pc := 11) dX11_noRow_11 rfl rfl ?_
    refine ⟨congrArg (fun z => some (Value.int z)) ?_, rfl, rfl, rfl, rfl⟩
    rw [w_wants_n0 hs0]; rfl

set_option maxRecDepth 100000 in
set_option maxHeartbeats 4000000 in
theorem c_X11_noPart {G : pv_G} {d : Nat} {J : pv_I} {K : pv_L} {s n : Int32} {t : pv_T} {I : pv_I} {L : pv_L} {Rf : pv_R} (hW : WF J K) (hX : RX J K t I L Rf)  (hd : 5 ≤ d) : pv_Mt G mX11_noPart d 0 0 [.ref 16, .int s, .int n] t I L Rf (pv_is (some (.int (-(w_bars J s n)))) t I L Rf) := by
  refine pv_mt mgX11_noPart.2.2.2.2.2 [.ref 16, .int s, .int n, .retAddr 0, .retAddr 0] rfl (Nat.le_of_ble_eq_true rfl) ?_
  have hT := hX.1
  have hR := hX.2.1
  obtain ⟨-, -, ⟨xp, xq, xn, xst, xsp, xsd, xc⟩, xf, xs, xb, xi⟩ := id hX
  by_cases hs : s_sh s = true
  · have hin := s_sh_in hs
    have hs8 : s.toNatClampNeg < 8 := (pv_in_lt hin).2.2.1
    have hkd := x_kind hW hX hs8
    refine pv_aload_0 (pc := 0) dX11_noPart_0 ?_
    refine pv_iload_1 (pc := 1) dX11_noPart_1 ?_
    refine pv_callV1 (pc := 2) dX11_noPart_2 mgX11_noRow lv_X11_78_11 (by decide) (sx_16 hT) (by omega) (c_X11_noRow hW hX (by omega)) rfl rfl (by decide) ?_
    refine pv_istore_3 (pc := 5) dX11_noPart_5 (by decide) rfl ?_
    refine pv_aload_0 (pc := 6) dX11_noPart_6 ?_
    refine pv_iload_1 (pc := 7) dX11_noPart_7 ?_
    refine pv_callV1 (pc := 8) dX11_noPart_8 mgX11_shelfAt lv_X11_66_11 (by decide) (sx_16 hT) (by omega) (c_X11_shelfAt1 hT hR hin) rfl rfl (by decide) ?_
    refine pv_astore_4 (pc := 11) dX11_noPart_11 (by decide) rfl ?_
    refine pv_iload_3 (pc := 13) dX11_noPart_13 ?_
    refine pv_if_ne (pc := 14) (tgt := 22) dX11_noPart_14 (by decide) (fun h14 => ?_) (fun h14 => ?_)
    · refine pv_iload_3 (pc := 22) dX11_noPart_22 ?_
      refine pv_iret (pc := 23) dX11_noPart_23 rfl rfl ?_
      refine ⟨congrArg (fun z => some (Value.int z)) ?_, rfl, rfl, rfl, rfl⟩
      unfold w_bars
      rcases hkd with ⟨k1, k2, k3, k4⟩ | ⟨k1, k2, k3, k4, k5, k6, k7⟩ | ⟨k1, k2, k3, k4, k5⟩
      · have e := (w_wants_k (J := J) hs).1 k1
        first
          | (have f1 := h14; rw [e, if_neg (by decide)]; done)
          | (have f1 := h14; rw [e] at f1; exact absurd f1 (by decide))
          | (have f1 := h14; rw [e] at f1; exact absurd (Classical.not_not.mp f1) (by decide))
      · have e := (w_wants_k (J := J) hs).2.1 k1
        rw [e, if_pos rfl]
        first
          | (have f1 := h14; rw [e] at f1; exact absurd rfl f1)
          | (have f1 := h25; rw [if_pos (by first | exact f1 | exact Classical.not_not.mp f1)]; rfl)
          | (have f1 := h25; have f2 := h36; rw [k3] at f2; rw [if_neg f1, if_pos f2]; rfl)
          | (have f1 := h25; have f2 := h36; rw [k3] at f2; rw [if_neg f1, if_neg f2]; rfl)
      · have e := (w_wants_k (J := J) hs).2.2 k1
        first
          | (have f1 := h14; rw [e, if_neg (by decide)]; done)
          | (have f1 := h14; rw [e] at f1; exact absurd f1 (by decide))
          | (have f1 := h14; rw [e] at f1; exact absurd (Classical.not_not.mp f1) (by decide))
    · refine pv_aload_4 (pc := 17) dX11_noPart_17 ?_
      refine pv_ifnonnull (pc := 19) (tgt := 24) dX11_noPart_19 (by decide) ?_
      refine pv_iload_2 (pc := 24) dX11_noPart_24 ?_
      refine pv_if_ge (pc := 25) (tgt := 30) dX11_noPart_25 (by decide) (fun h25 => ?_) (fun h25 => ?_)
      · refine pv_iload_2 (pc := 30) dX11_noPart_30 ?_
        refine pv_aload_4 (pc := 31) dX11_noPart_31 ?_
        refine pv_getI (pc := 33) dX11_noPart_33 fg_X11_314_8 rfl (by omega) (sx_sh hT hs8) ?_
        refine pv_icmp_le (pc := 36) (tgt := 43) dX11_noPart_36 (by decide) (fun h36 => ?_) (fun h36 => ?_)
        · refine pv_iconst (pc := 43) (v := 0) dX11_noPart_43 (by decide) ?_
          refine pv_iret (pc := 44) dX11_noPart_44 rfl rfl ?_
          refine ⟨congrArg (fun z => some (Value.int z)) ?_, rfl, rfl, rfl, rfl⟩
          unfold w_bars
          rcases hkd with ⟨k1, k2, k3, k4⟩ | ⟨k1, k2, k3, k4, k5, k6, k7⟩ | ⟨k1, k2, k3, k4, k5⟩
          · have e := (w_wants_k (J := J) hs).1 k1
            first
              | (have f1 := h14; rw [e, if_neg (by decide)]; done)
              | (have f1 := h14; rw [e] at f1; exact absurd f1 (by decide))
              | (have f1 := h14; rw [e] at f1; exact absurd (Classical.not_not.mp f1) (by decide))
          · have e := (w_wants_k (J := J) hs).2.1 k1
            rw [e, if_pos rfl]
            first
              | (have f1 := h14; rw [e] at f1; exact absurd rfl f1)
              | (have f1 := h25; rw [if_pos (by first | exact f1 | exact Classical.not_not.mp f1)]; rfl)
              | (have f1 := h25; have f2 := h36; rw [k3] at f2; rw [if_neg f1, if_pos f2]; rfl)
              | (have f1 := h25; have f2 := h36; rw [k3] at f2; rw [if_neg f1, if_neg f2]; rfl)
          · have e := (w_wants_k (J := J) hs).2.2 k1
            first
              | (have f1 := h14; rw [e, if_neg (by decide)]; done)
              | (have f1 := h14; rw [e] at f1; exact absurd f1 (by decide))
              | (have f1 := h14; rw [e] at f1; exact absurd (Classical.not_not.mp f1) (by decide))
        · refine pv_iconst (pc := 39) (v := 5) dX11_noPart_39 (by decide) ?_
          refine pv_goto (pc := 40) (tgt := 44) dX11_noPart_40 (by decide) ?_
          refine pv_iret (pc := 44) dX11_noPart_44 rfl rfl ?_
          refine ⟨congrArg (fun z => some (Value.int z)) ?_, rfl, rfl, rfl, rfl⟩
          unfold w_bars
          rcases hkd with ⟨k1, k2, k3, k4⟩ | ⟨k1, k2, k3, k4, k5, k6, k7⟩ | ⟨k1, k2, k3, k4, k5⟩
          · have e := (w_wants_k (J := J) hs).1 k1
            first
              | (have f1 := h14; rw [e, if_neg (by decide)]; done)
              | (have f1 := h14; rw [e] at f1; exact absurd f1 (by decide))
              | (have f1 := h14; rw [e] at f1; exact absurd (Classical.not_not.mp f1) (by decide))
          · have e := (w_wants_k (J := J) hs).2.1 k1
            rw [e, if_pos rfl]
            first
              | (have f1 := h14; rw [e] at f1; exact absurd rfl f1)
              | (have f1 := h25; rw [if_pos (by first | exact f1 | exact Classical.not_not.mp f1)]; rfl)
              | (have f1 := h25; have f2 := h36; rw [k3] at f2; rw [if_neg f1, if_pos f2]; rfl)
              | (have f1 := h25; have f2 := h36; rw [k3] at f2; rw [if_neg f1, if_neg f2]; rfl)
          · have e := (w_wants_k (J := J) hs).2.2 k1
            first
              | (have f1 := h14; rw [e, if_neg (by decide)]; done)
              | (have f1 := h14; rw [e] at f1; exact absurd f1 (by decide))
              | (have f1 := h14; rw [e] at f1; exact absurd (Classical.not_not.mp f1) (by decide))
      · refine pv_iconst (pc := 28) (v := 4) dX11_noPart_28 (by decide) ?_
        refine pv_iret (pc := 29) dX11_noPart_29 rfl rfl ?_
        refine ⟨congrArg (fun z => some (Value.int z)) ?_, rfl, rfl, rfl, rfl⟩
        unfold w_bars
        rcases hkd with ⟨k1, k2, k3, k4⟩ | ⟨k1, k2, k3, k4, k5, k6, k7⟩ | ⟨k1, k2, k3, k4, k5⟩
        · have e := (w_wants_k (J := J) hs).1 k1
          first
            | (have f1 := h14; rw [e, if_neg (by decide)]; done)
            | (have f1 := h14; rw [e] at f1; exact absurd f1 (by decide))
            | (have f1 := h14; rw [e] at f1; exact absurd (Classical.not_not.mp f1) (by decide))
        · have e := (w_wants_k (J := J) hs).2.1 k1
          rw [e, if_pos rfl]
          first
            | (have f1 := h14; rw [e] at f1; exact absurd rfl f1)
            | (have f1 := h25; rw [if_pos (by first | exact f1 | exact Classical.not_not.mp f1)]; rfl)
            | (have f1 := h25; have f2 := h36; rw [k3] at f2; rw [if_neg f1, if_pos f2]; rfl)
            | (have f1 := h25; have f2 := h36; rw [k3] at f2; rw [if_neg f1, if_neg f2]; rfl)
        · have e := (w_wants_k (J := J) hs).2.2 k1
          first
            | (have f1 := h14; rw [e, if_neg (by decide)]; done)
            | (have f1 := h14; rw [e] at f1; exact absurd f1 (by decide))
            | (have f1 := h14; rw [e] at f1; exact absurd (Classical.not_not.mp f1) (by decide))
  · have hs0 : s_sh s = false := by simpa using hs
    refine pv_aload_0 (pc := 0) dX11_noPart_0 ?_
    refine pv_iload_1 (pc := 1) dX11_noPart_1 ?_
    refine pv_callV1 (pc := 2) dX11_noPart_2 mgX11_noRow lv_X11_78_11 (by decide) (sx_16 hT) (by omega) (c_X11_noRow hW hX (by omega)) rfl rfl (by decide) ?_
    refine pv_istore_3 (pc := 5) dX11_noPart_5 (by decide) rfl ?_
    refine pv_aload_0 (pc := 6) dX11_noPart_6 ?_
    refine pv_iload_1 (pc := 7) dX11_noPart_7 ?_
    refine pv_callV1 (pc := 8) dX11_noPart_8 mgX11_shelfAt lv_X11_66_11 (by decide) (sx_16 hT) (by omega) (c_X11_shelfAt0 hT hR hs0) rfl rfl (by decide) ?_
    refine pv_astoreN_4 (pc := 11) dX11_noPart_11 (by decide) rfl ?_
    refine pv_iload_3 (pc := 13) dX11_noPart_13 ?_
    refine pv_if_ne (pc := 14) (tgt := 22) dX11_noPart_14 (by decide) (fun h14 => ?_) (fun h14 => ?_)
    · refine pv_iload_3 (pc := 22) dX11_noPart_22 ?_
      refine pv_iret (pc := 23) dX11_noPart_23 rfl rfl ?_
      refine ⟨congrArg (fun z => some (Value.int z)) ?_, rfl, rfl, rfl, rfl⟩
      unfold w_bars; rw [w_wants_n0 hs0, if_neg (by decide)]
    · refine pv_aloadN_4 (pc := 17) dX11_noPart_17 ?_
      refine pv_ifnonnullN (pc := 19) dX11_noPart_19 ?_
      refine pv_iload_3 (pc := 22) dX11_noPart_22 ?_
      refine pv_iret (pc := 23) dX11_noPart_23 rfl rfl ?_
      refine ⟨congrArg (fun z => some (Value.int z)) ?_, rfl, rfl, rfl, rfl⟩
      unfold w_bars; rw [w_wants_n0 hs0, if_neg (by decide)]

set_option maxRecDepth 100000 in
set_option maxHeartbeats 4000000 in
theorem c_X11_figureAt1 {G : pv_G} {d : Nat} {h : Nat} {f : Int32} {t : pv_T} {I : pv_I} {L : pv_L} {Rf : pv_R} (hT : sh_ok t) (hR : rf_ok Rf) (h16 : 16 ≤ h) (hh : t.1 h = some (.inr 4)) {x : Nat} (hf : vp_in f 8) (hc : f < I h 3) (hx : Rf 18 f.toNatClampNeg = some x) : pv_Mt G mX11_figureAt d 0 0 [.ref 16, .ref h, .int f] t I L Rf (pv_is (some (.ref x)) t I L Rf) := by
  refine pv_mt mgX11_figureAt.2.2.2.2.2 [.ref 16, .ref h, .int f] rfl (Nat.le_of_ble_eq_true rfl) ?_
  refine pv_iload_2 (pc := 0) dX11_figureAt_0 ?_
  refine pv_if_lt (pc := 1) (tgt := 27) dX11_figureAt_1 (by decide) (fun h1 => absurd h1 (by have := pv_in_lt hf; rw [i_lt, Int32.toInt_zero]; omega)) (fun h1 => ?_)
  refine pv_iload_2 (pc := 4) dX11_figureAt_4 ?_
  refine pv_aload_1 (pc := 5) dX11_figureAt_5 ?_
  refine pv_getI (pc := 6) dX11_figureAt_6 fg_X11_151_4 rfl h16 hh ?_
  refine pv_icmp_ge (pc := 9) (tgt := 27) dX11_figureAt_9 (by decide) (fun h9 => absurd h9 (not_not_intro hc)) (fun h9 => ?_)
  refine pv_iload_2 (pc := 12) dX11_figureAt_12 ?_
  refine pv_bipush (pc := 13) (v := 8) dX11_figureAt_13 (by decide) ?_
  refine pv_icmp_ge (pc := 15) (tgt := 27) dX11_figureAt_15 (by decide) (fun h15 => absurd h15 (not_not_intro (by have := pv_in_lt hf; rw [i_lt, show (8 : Int32).toInt = 8 by decide]; omega))) (fun h15 => ?_)
  refine pv_aload_0 (pc := 18) dX11_figureAt_18 ?_
  refine pv_getR (pc := 19) dX11_figureAt_19 fg_X11_17_11 rfl (by decide) (sx_16 hT) (rx_16_1 hR) ?_
  refine pv_iload_2 (pc := 22) dX11_figureAt_22 ?_
  refine pv_aaload (pc := 23) dX11_figureAt_23 (by decide) (sx_18 hT) hf (by rw [hx]) ?_
  refine pv_goto (pc := 24) (tgt := 28) dX11_figureAt_24 (by decide) ?_
  refine pv_aret (pc := 28) dX11_figureAt_28 (Or.inr ⟨_, rfl⟩) rfl (Or.inl ⟨_, rfl⟩) ?_
  exact ⟨rfl, rfl, rfl, rfl, rfl⟩

theorem c_X11_figureAt0 {G : pv_G} {d : Nat} {h : Nat} {f : Int32} {t : pv_T} {I : pv_I} {L : pv_L} {Rf : pv_R} (hT : sh_ok t) (hR : rf_ok Rf) (h16 : 16 ≤ h) (hh : t.1 h = some (.inr 4)) (hf : ¬ (0 ≤ f ∧ f < I h 3 ∧ f < 8)) : pv_Mt G mX11_figureAt d 0 0 [.ref 16, .ref h, .int f] t I L Rf (pv_is (some .null) t I L Rf) := by
  refine pv_mt mgX11_figureAt.2.2.2.2.2 [.ref 16, .ref h, .int f] rfl (Nat.le_of_ble_eq_true rfl) ?_
  have e : ¬ f < 0 → 0 ≤ f := fun q => by rw [i_lt] at q; rw [i_le]; omega
  by_cases g1 : f < 0
  · skip
    refine pv_iload_2 (pc := 0) dX11_figureAt_0 ?_
    refine pv_if_lt (pc := 1) (tgt := 27) dX11_figureAt_1 (by decide) (fun h1 => ?_) (fun h1 => absurd h1 (not_not_intro g1))
    refine pv_null (pc := 27) dX11_figureAt_27 ?_
    refine pv_aret (pc := 28) dX11_figureAt_28 (Or.inl rfl) rfl (Or.inl ⟨_, rfl⟩) ?_
    exact ⟨rfl, rfl, rfl, rfl, rfl⟩
  · by_cases g2 : f < I h 3
    · by_cases g3 : f < 8
      · exact absurd ⟨e g1, g2, g3⟩ hf
      · skip
        refine pv_iload_2 (pc := 0) dX11_figureAt_0 ?_
        refine pv_if_lt (pc := 1) (tgt := 27) dX11_figureAt_1 (by decide) (fun h1 => absurd h1 g1) (fun h1 => ?_)
        refine pv_iload_2 (pc := 4) dX11_figureAt_4 ?_
        refine pv_aload_1 (pc := 5) dX11_figureAt_5 ?_
        refine pv_getI (pc := 6) dX11_figureAt_6 fg_X11_151_4 rfl h16 hh ?_
        refine pv_icmp_ge (pc := 9) (tgt := 27) dX11_figureAt_9 (by decide) (fun h9 => absurd h9 (not_not_intro g2)) (fun h9 => ?_)
        refine pv_iload_2 (pc := 12) dX11_figureAt_12 ?_
        refine pv_bipush (pc := 13) (v := 8) dX11_figureAt_13 (by decide) ?_
        refine pv_icmp_ge (pc := 15) (tgt := 27) dX11_figureAt_15 (by decide) (fun h15 => ?_) (fun h15 => absurd h15 g3)
        refine pv_null (pc := 27) dX11_figureAt_27 ?_
        refine pv_aret (pc := 28) dX11_figureAt_28 (Or.inl rfl) rfl (Or.inl ⟨_, rfl⟩) ?_
        exact ⟨rfl, rfl, rfl, rfl, rfl⟩
    · skip
      refine pv_iload_2 (pc := 0) dX11_figureAt_0 ?_
      refine pv_if_lt (pc := 1) (tgt := 27) dX11_figureAt_1 (by decide) (fun h1 => absurd h1 g1) (fun h1 => ?_)
      refine pv_iload_2 (pc := 4) dX11_figureAt_4 ?_
      refine pv_aload_1 (pc := 5) dX11_figureAt_5 ?_
      refine pv_getI (pc := 6) dX11_figureAt_6 fg_X11_151_4 rfl h16 hh ?_
      refine pv_icmp_ge (pc := 9) (tgt := 27) dX11_figureAt_9 (by decide) (fun h9 => ?_) (fun h9 => absurd h9 g2)
      refine pv_null (pc := 27) dX11_figureAt_27 ?_
      refine pv_aret (pc := 28) dX11_figureAt_28 (Or.inl rfl) rfl (Or.inl ⟨_, rfl⟩) ?_
      exact ⟨rfl, rfl, rfl, rfl, rfl⟩
