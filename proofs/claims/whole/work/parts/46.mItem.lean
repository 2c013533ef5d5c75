/-! a word that stands there; an item -/
def b_f4 : List Int32 := [99, 97, 108, 108]
def b_f5 : List Int32 := [115, 116, 97, 114, 116]
theorem b_t0 : b_seg 0 b_f6 32 := b_seg_of (by decide) (by decide)
theorem b_t1 : b_seg 8 b_f4 32 := b_seg_of (by decide) (by decide)
theorem b_t2 : b_seg 14 b_f5 32 := b_seg_of (by decide) (by decide)

set_option maxRecDepth 100000 in
set_option maxHeartbeats 4000000 in
theorem l_wat {G : pv_G} {d : Nat} {c : Nat → Int32} {e : Nat} {s w : Int32} {t : pv_T} {I : pv_I} {L : pv_L} {Rf : pv_R} (hT : sh_ok t) (hR : rf_ok Rf) (hx : b_tx c e s I L) : ∀ (l : List Int32) (k r : Nat), b_seg k l 32 → r ≤ e →
    pv_V G mX12_isWordAt d 0 0 (pv_is (some (.int (pv_b (b_lit c e l r).2))) t I L Rf) 0 0 37 [.ref 61, .int w, .int (Int32.ofNat k), .int (Int32.ofNat r)] [] t I L Rf := by
  have he := hx.2.1
  intro l
  induction l with
  | nil =>
    intro k r hs hr
    refine pv_aload_0 (pc := 37) dX12_isWordAt_37 ?_
    refine pv_getR (pc := 38) dX12_isWordAt_38 fg_X12_58_12 rfl (by decide) (sx_61 hT) (rx_61_21 hR) ?_
    refine pv_iload_2 (pc := 41) dX12_isWordAt_41 ?_
    refine pv_ialoadj (pc := 42) dX12_isWordAt_42 (sx_74 hT) rfl (i_in (k := k) (by have := b_seg_k hs; omega) (by decide)) ?_
    refine pv_topv2 (y := 32) (by rw [i_nat (by have := b_seg_k hs; omega)]; exact hx.2.2.2.2.2 _ _ hs.2) ?_
    refine pv_bipush (pc := 43) (v := 32) dX12_isWordAt_43 (by decide) ?_
    refine pv_icmp_le (pc := 45) (tgt := 86) dX12_isWordAt_45 (by decide) (fun h45 => ?_) (fun h45 => absurd h45 (by decide))
    refine pv_aload_0 (pc := 86) dX12_isWordAt_86 ?_
    refine pv_getR (pc := 87) dX12_isWordAt_87 fg_X12_58_12 rfl (by decide) (sx_61 hT) (rx_61_21 hR) ?_
    refine pv_iload_2 (pc := 90) dX12_isWordAt_90 ?_
    refine pv_ialoadj (pc := 91) dX12_isWordAt_91 (sx_74 hT) rfl (i_in (k := k) (by have := b_seg_k hs; omega) (by decide)) ?_
    refine pv_topv2 (y := 32) (by rw [i_nat (by have := b_seg_k hs; omega)]; exact hx.2.2.2.2.2 _ _ hs.2) ?_
    refine pv_bipush (pc := 92) (v := 32) dX12_isWordAt_92 (by decide) ?_
    refine pv_icmp_gt (pc := 94) (tgt := 101) dX12_isWordAt_94 (by decide) (fun h94 => absurd h94 (by decide)) (fun h94 => ?_)
    refine pv_iconst (pc := 97) (v := 1) dX12_isWordAt_97 (by decide) ?_
    refine pv_goto (pc := 98) (tgt := 102) dX12_isWordAt_98 (by decide) ?_
    refine pv_iret (pc := 102) dX12_isWordAt_102 rfl rfl ?_
    exact ⟨rfl, rfl, rfl, rfl, rfl⟩
  | cons x l ih =>
    intro k r hs hr
    have hk := hs.1 0 x rfl
    refine pv_aload_0 (pc := 37) dX12_isWordAt_37 ?_
    refine pv_getR (pc := 38) dX12_isWordAt_38 fg_X12_58_12 rfl (by decide) (sx_61 hT) (rx_61_21 hR) ?_
    refine pv_iload_2 (pc := 41) dX12_isWordAt_41 ?_
    refine pv_ialoadj (pc := 42) dX12_isWordAt_42 (sx_74 hT) rfl (i_in (k := k) (by have := b_seg_k hs; omega) (by decide)) ?_
    refine pv_topv2 (y := x) (by rw [i_nat (by have := b_seg_k hs; omega)]; exact hx.2.2.2.2.2 _ _ hk.1) ?_
    refine pv_bipush (pc := 43) (v := 32) dX12_isWordAt_43 (by decide) ?_
    refine pv_icmp_le (pc := 45) (tgt := 86) dX12_isWordAt_45 (by decide) (fun h45 => absurd h45 (not_not_intro hk.2)) (fun h45 => ?_)
    refine pv_iload_3 (pc := 48) dX12_isWordAt_48 ?_
    refine pv_aload_0 (pc := 49) dX12_isWordAt_49 ?_
    refine pv_getI (pc := 50) dX12_isWordAt_50 fg_X12_172_12 rfl (by decide) (sx_61 hT) ?_
    refine pv_icmp_ge (pc := 53) (tgt := 86) dX12_isWordAt_53 (by decide) (fun h53 => ?_) (fun h53 => ?_)
    · refine pv_aload_0 (pc := 86) dX12_isWordAt_86 ?_
      refine pv_getR (pc := 87) dX12_isWordAt_87 fg_X12_58_12 rfl (by decide) (sx_61 hT) (rx_61_21 hR) ?_
      refine pv_iload_2 (pc := 90) dX12_isWordAt_90 ?_
      refine pv_ialoadj (pc := 91) dX12_isWordAt_91 (sx_74 hT) rfl (i_in (k := k) (by have := b_seg_k hs; omega) (by decide)) ?_
      refine pv_topv2 (y := x) (by rw [i_nat (by have := b_seg_k hs; omega)]; exact hx.2.2.2.2.2 _ _ hk.1) ?_
      refine pv_bipush (pc := 92) (v := 32) dX12_isWordAt_92 (by decide) ?_
      refine pv_icmp_gt (pc := 94) (tgt := 101) dX12_isWordAt_94 (by decide) (fun h94 => ?_) (fun h94 => absurd h94 (not_not_intro hk.2))
      refine pv_iconst (pc := 101) (v := 0) dX12_isWordAt_101 (by decide) ?_
      refine pv_iret (pc := 102) dX12_isWordAt_102 rfl rfl ?_
      have e1 : b_lit c e (x :: l) r = (r, false) := by
        rw [b_lit]
        first
          | (have f1 : ¬ r < e := (by have g := h53; rw [hx.2.2.2.1, i_lt, i_of (by omega), i_of (by omega)] at g; omega); rw [if_neg (fun q => f1 q.1)]; done)
          | (have f1 : ¬ c r = x := h74; rw [if_neg (fun q => f1 q.2)]; done)
      rw [e1]
      exact ⟨rfl, rfl, rfl, rfl, rfl⟩
    · refine pv_aload_0 (pc := 56) dX12_isWordAt_56 ?_
      refine pv_getR (pc := 57) dX12_isWordAt_57 fg_X12_48_12 rfl (by decide) (sx_61 hT) (rx_61_16 hR) ?_
      refine pv_aload_0 (pc := 60) dX12_isWordAt_60 ?_
      refine pv_getI (pc := 61) dX12_isWordAt_61 fg_X12_175_12 rfl (by decide) (sx_61 hT) ?_
      refine pv_iload_3 (pc := 64) dX12_isWordAt_64 ?_
      refine pv_iadd (pc := 65) dX12_isWordAt_65 ?_
      have hre : r < e := (by have g := h53; rw [hx.2.2.2.1, i_lt, i_of (by omega), i_of (by omega)] at g; omega)
      have hc := b_cell hx (r := r) (by omega)
      rw [hx.2.2.1]
      refine pv_laloadj (pc := 66) dX12_isWordAt_66 (by decide) (sx_71 hT) rfl hc.1 ?_
      refine pv_l2i (pc := 67) dX12_isWordAt_67 ?_
      refine pv_topv2 (y := c r) hc.2 ?_
      refine pv_aload_0 (pc := 68) dX12_isWordAt_68 ?_
      refine pv_getR (pc := 69) dX12_isWordAt_69 fg_X12_58_12 rfl (by decide) (sx_61 hT) (rx_61_21 hR) ?_
      refine pv_iload_2 (pc := 72) dX12_isWordAt_72 ?_
      refine pv_ialoadj (pc := 73) dX12_isWordAt_73 (sx_74 hT) rfl (i_in (k := k) (by have := b_seg_k hs; omega) (by decide)) ?_
      refine pv_topv2 (y := x) (by rw [i_nat (by have := b_seg_k hs; omega)]; exact hx.2.2.2.2.2 _ _ hk.1) ?_
      refine pv_icmp_ne (pc := 74) (tgt := 86) dX12_isWordAt_74 (by decide) (fun h74 => ?_) (fun h74 => ?_)
      · refine pv_aload_0 (pc := 86) dX12_isWordAt_86 ?_
        refine pv_getR (pc := 87) dX12_isWordAt_87 fg_X12_58_12 rfl (by decide) (sx_61 hT) (rx_61_21 hR) ?_
        refine pv_iload_2 (pc := 90) dX12_isWordAt_90 ?_
        refine pv_ialoadj (pc := 91) dX12_isWordAt_91 (sx_74 hT) rfl (i_in (k := k) (by have := b_seg_k hs; omega) (by decide)) ?_
        refine pv_topv2 (y := x) (by rw [i_nat (by have := b_seg_k hs; omega)]; exact hx.2.2.2.2.2 _ _ hk.1) ?_
        refine pv_bipush (pc := 92) (v := 32) dX12_isWordAt_92 (by decide) ?_
        refine pv_icmp_gt (pc := 94) (tgt := 101) dX12_isWordAt_94 (by decide) (fun h94 => ?_) (fun h94 => absurd h94 (not_not_intro hk.2))
        refine pv_iconst (pc := 101) (v := 0) dX12_isWordAt_101 (by decide) ?_
        refine pv_iret (pc := 102) dX12_isWordAt_102 rfl rfl ?_
        have e1 : b_lit c e (x :: l) r = (r, false) := by
          rw [b_lit]
          first
            | (have f1 : ¬ r < e := (by have g := h53; rw [hx.2.2.2.1, i_lt, i_of (by omega), i_of (by omega)] at g; omega); rw [if_neg (fun q => f1 q.1)]; done)
            | (have f1 : ¬ c r = x := h74; rw [if_neg (fun q => f1 q.2)]; done)
        rw [e1]
        exact ⟨rfl, rfl, rfl, rfl, rfl⟩
      · refine pv_iinc_3 (pc := 77) (v := _ + 1) dX12_isWordAt_77 rfl (by decide) rfl ?_
        refine pv_iinc_2 (pc := 80) (v := _ + 1) dX12_isWordAt_80 rfl (by decide) rfl ?_
        refine pv_goto (pc := 83) (tgt := 37) dX12_isWordAt_83 (by decide) ?_
        rw [i_inc, i_inc]
        have e1 : b_lit c e (x :: l) r = b_lit c e l (r + 1) := by
          have f1 : c r = x := (by first | exact h74 | exact Classical.not_not.mp h74)
          rw [b_lit, if_pos ⟨hre, f1⟩]
        rw [e1]
        exact ih (k + 1) (r + 1) (b_seg_t hs) (by omega)

set_option maxRecDepth 100000 in
set_option maxHeartbeats 4000000 in
theorem c_X12_isWordAt0 {G : pv_G} {d : Nat} {c : Nat → Int32} {e r : Nat} {s : Int32} {t : pv_T} {I : pv_I} {L : pv_L} {Rf : pv_R} (hT : sh_ok t) (hR : rf_ok Rf) (hx : b_tx c e s I L) (hp : I 61 24 = Int32.ofNat r) (hr : r ≤ e) : pv_Mt G mX12_isWordAt d 0 0 [.ref 61, .int 0] t I L Rf (pv_is (some (.int (pv_b (b_lit c e b_f6 r).2))) t I L Rf) := by
  refine pv_mt mgX12_isWordAt.2.2.2.2.2 [.ref 61, .int 0, .retAddr 0, .retAddr 0] rfl (Nat.le_of_ble_eq_true rfl) ?_
  refine pv_iconst (pc := 0) (v := 0) dX12_isWordAt_0 (by decide) ?_
  refine pv_istore_2 (pc := 1) dX12_isWordAt_1 (by decide) rfl ?_
  refine pv_iconst (pc := 2) (v := 0) dX12_isWordAt_2 (by decide) ?_
  refine pv_istore_3 (pc := 3) dX12_isWordAt_3 (by decide) rfl ?_
  refine pv_iload_3 (pc := 4) dX12_isWordAt_4 ?_
  refine pv_iload_1 (pc := 5) dX12_isWordAt_5 ?_
  refine pv_icmp_ge (pc := 6) (tgt := 32) dX12_isWordAt_6 (by decide) (fun _ => ?_) (fun q => absurd q (by decide))
  refine pv_aload_0 (pc := 32) dX12_isWordAt_32 ?_
  refine pv_getI (pc := 33) dX12_isWordAt_33 fg_X12_169_12 rfl (by decide) (sx_61 hT) ?_
  refine pv_istore_3 (pc := 36) dX12_isWordAt_36 (by decide) rfl ?_
  rw [hp]
  exact l_wat hT hR hx b_f6 0 r b_t0 hr

set_option maxRecDepth 100000 in
set_option maxHeartbeats 4000000 in
theorem c_X12_isWordAt1 {G : pv_G} {d : Nat} {c : Nat → Int32} {e r : Nat} {s : Int32} {t : pv_T} {I : pv_I} {L : pv_L} {Rf : pv_R} (hT : sh_ok t) (hR : rf_ok Rf) (hx : b_tx c e s I L) (hp : I 61 24 = Int32.ofNat r) (hr : r ≤ e) : pv_Mt G mX12_isWordAt d 0 0 [.ref 61, .int 1] t I L Rf (pv_is (some (.int (pv_b (b_lit c e b_f4 r).2))) t I L Rf) := by
  refine pv_mt mgX12_isWordAt.2.2.2.2.2 [.ref 61, .int 1, .retAddr 0, .retAddr 0] rfl (Nat.le_of_ble_eq_true rfl) ?_
  refine pv_iconst (pc := 0) (v := 0) dX12_isWordAt_0 (by decide) ?_
  refine pv_istore_2 (pc := 1) dX12_isWordAt_1 (by decide) rfl ?_
  refine pv_iconst (pc := 2) (v := 0) dX12_isWordAt_2 (by decide) ?_
  refine pv_istore_3 (pc := 3) dX12_isWordAt_3 (by decide) rfl ?_
  refine pv_iload_3 (pc := 4) dX12_isWordAt_4 ?_
  refine pv_iload_1 (pc := 5) dX12_isWordAt_5 ?_
  refine pv_icmp_ge (pc := 6) (tgt := 32) dX12_isWordAt_6 (by decide) (fun q => absurd q (by decide)) (fun _ => ?_)
  refine pv_iload_3 (pc := 9) dX12_isWordAt_9 ?_
  refine pv_aload_0 (pc := 10) dX12_isWordAt_10 ?_
  refine pv_getR (pc := 11) dX12_isWordAt_11 fg_X12_58_12 rfl (by decide) (sx_61 hT) (rx_61_21 hR) ?_
  refine pv_iload_2 (pc := 14) dX12_isWordAt_14 ?_
  refine pv_ialoadj (pc := 15) dX12_isWordAt_15 (sx_74 hT) (j := 0) (by decide) (by unfold vp_in; decide) ?_
  refine pv_topv2 (y := 102) (hx.2.2.2.2.2 0 102 rfl) ?_
  refine pv_if_ne (pc := 16) (tgt := 23) dX12_isWordAt_16 (by decide) (fun _ => ?_) (fun q => absurd q (by decide))
  refine pv_iconst (pc := 23) (v := 0) dX12_isWordAt_23 (by decide) ?_
  refine pv_iadd (pc := 24) dX12_isWordAt_24 ?_
  refine pv_topv (y := 0) (by decide) ?_
  refine pv_istore_3 (pc := 25) dX12_isWordAt_25 (by decide) rfl ?_
  refine pv_iinc_2 (pc := 26) (v := 1) dX12_isWordAt_26 (by decide) (by decide) rfl ?_
  refine pv_goto (pc := 29) (tgt := 4) dX12_isWordAt_29 (by decide) ?_
  refine pv_iload_3 (pc := 4) dX12_isWordAt_4 ?_
  refine pv_iload_1 (pc := 5) dX12_isWordAt_5 ?_
  refine pv_icmp_ge (pc := 6) (tgt := 32) dX12_isWordAt_6 (by decide) (fun q => absurd q (by decide)) (fun _ => ?_)
  refine pv_iload_3 (pc := 9) dX12_isWordAt_9 ?_
  refine pv_aload_0 (pc := 10) dX12_isWordAt_10 ?_
  refine pv_getR (pc := 11) dX12_isWordAt_11 fg_X12_58_12 rfl (by decide) (sx_61 hT) (rx_61_21 hR) ?_
  refine pv_iload_2 (pc := 14) dX12_isWordAt_14 ?_
  refine pv_ialoadj (pc := 15) dX12_isWordAt_15 (sx_74 hT) (j := 1) (by decide) (by unfold vp_in; decide) ?_
  refine pv_topv2 (y := 105) (hx.2.2.2.2.2 1 105 rfl) ?_
  refine pv_if_ne (pc := 16) (tgt := 23) dX12_isWordAt_16 (by decide) (fun _ => ?_) (fun q => absurd q (by decide))
  refine pv_iconst (pc := 23) (v := 0) dX12_isWordAt_23 (by decide) ?_
  refine pv_iadd (pc := 24) dX12_isWordAt_24 ?_
  refine pv_topv (y := 0) (by decide) ?_
  refine pv_istore_3 (pc := 25) dX12_isWordAt_25 (by decide) rfl ?_
  refine pv_iinc_2 (pc := 26) (v := 2) dX12_isWordAt_26 (by decide) (by decide) rfl ?_
  refine pv_goto (pc := 29) (tgt := 4) dX12_isWordAt_29 (by decide) ?_
  refine pv_iload_3 (pc := 4) dX12_isWordAt_4 ?_
  refine pv_iload_1 (pc := 5) dX12_isWordAt_5 ?_
  refine pv_icmp_ge (pc := 6) (tgt := 32) dX12_isWordAt_6 (by decide) (fun q => absurd q (by decide)) (fun _ => ?_)
  refine pv_iload_3 (pc := 9) dX12_isWordAt_9 ?_
  refine pv_aload_0 (pc := 10) dX12_isWordAt_10 ?_
  refine pv_getR (pc := 11) dX12_isWordAt_11 fg_X12_58_12 rfl (by decide) (sx_61 hT) (rx_61_21 hR) ?_
  refine pv_iload_2 (pc := 14) dX12_isWordAt_14 ?_
  refine pv_ialoadj (pc := 15) dX12_isWordAt_15 (sx_74 hT) (j := 2) (by decide) (by unfold vp_in; decide) ?_
  refine pv_topv2 (y := 103) (hx.2.2.2.2.2 2 103 rfl) ?_
  refine pv_if_ne (pc := 16) (tgt := 23) dX12_isWordAt_16 (by decide) (fun _ => ?_) (fun q => absurd q (by decide))
  refine pv_iconst (pc := 23) (v := 0) dX12_isWordAt_23 (by decide) ?_
  refine pv_iadd (pc := 24) dX12_isWordAt_24 ?_
  refine pv_topv (y := 0) (by decide) ?_
  refine pv_istore_3 (pc := 25) dX12_isWordAt_25 (by decide) rfl ?_
  refine pv_iinc_2 (pc := 26) (v := 3) dX12_isWordAt_26 (by decide) (by decide) rfl ?_
  refine pv_goto (pc := 29) (tgt := 4) dX12_isWordAt_29 (by decide) ?_
  refine pv_iload_3 (pc := 4) dX12_isWordAt_4 ?_
  refine pv_iload_1 (pc := 5) dX12_isWordAt_5 ?_
  refine pv_icmp_ge (pc := 6) (tgt := 32) dX12_isWordAt_6 (by decide) (fun q => absurd q (by decide)) (fun _ => ?_)
  refine pv_iload_3 (pc := 9) dX12_isWordAt_9 ?_
  refine pv_aload_0 (pc := 10) dX12_isWordAt_10 ?_
  refine pv_getR (pc := 11) dX12_isWordAt_11 fg_X12_58_12 rfl (by decide) (sx_61 hT) (rx_61_21 hR) ?_
  refine pv_iload_2 (pc := 14) dX12_isWordAt_14 ?_
  refine pv_ialoadj (pc := 15) dX12_isWordAt_15 (sx_74 hT) (j := 3) (by decide) (by unfold vp_in; decide) ?_
  refine pv_topv2 (y := 117) (hx.2.2.2.2.2 3 117 rfl) ?_
  refine pv_if_ne (pc := 16) (tgt := 23) dX12_isWordAt_16 (by decide) (fun _ => ?_) (fun q => absurd q (by decide))
  refine pv_iconst (pc := 23) (v := 0) dX12_isWordAt_23 (by decide) ?_
  refine pv_iadd (pc := 24) dX12_isWordAt_24 ?_
  refine pv_topv (y := 0) (by decide) ?_
  refine pv_istore_3 (pc := 25) dX12_isWordAt_25 (by decide) rfl ?_
  refine pv_iinc_2 (pc := 26) (v := 4) dX12_isWordAt_26 (by decide) (by decide) rfl ?_
  refine pv_goto (pc := 29) (tgt := 4) dX12_isWordAt_29 (by decide) ?_
  refine pv_iload_3 (pc := 4) dX12_isWordAt_4 ?_
  refine pv_iload_1 (pc := 5) dX12_isWordAt_5 ?_
  refine pv_icmp_ge (pc := 6) (tgt := 32) dX12_isWordAt_6 (by decide) (fun q => absurd q (by decide)) (fun _ => ?_)
  refine pv_iload_3 (pc := 9) dX12_isWordAt_9 ?_
  refine pv_aload_0 (pc := 10) dX12_isWordAt_10 ?_
  refine pv_getR (pc := 11) dX12_isWordAt_11 fg_X12_58_12 rfl (by decide) (sx_61 hT) (rx_61_21 hR) ?_
  refine pv_iload_2 (pc := 14) dX12_isWordAt_14 ?_
  refine pv_ialoadj (pc := 15) dX12_isWordAt_15 (sx_74 hT) (j := 4) (by decide) (by unfold vp_in; decide) ?_
  refine pv_topv2 (y := 114) (hx.2.2.2.2.2 4 114 rfl) ?_
  refine pv_if_ne (pc := 16) (tgt := 23) dX12_isWordAt_16 (by decide) (fun _ => ?_) (fun q => absurd q (by decide))
  refine pv_iconst (pc := 23) (v := 0) dX12_isWordAt_23 (by decide) ?_
  refine pv_iadd (pc := 24) dX12_isWordAt_24 ?_
  refine pv_topv (y := 0) (by decide) ?_
  refine pv_istore_3 (pc := 25) dX12_isWordAt_25 (by decide) rfl ?_
  refine pv_iinc_2 (pc := 26) (v := 5) dX12_isWordAt_26 (by decide) (by decide) rfl ?_
  refine pv_goto (pc := 29) (tgt := 4) dX12_isWordAt_29 (by decide) ?_
  refine pv_iload_3 (pc := 4) dX12_isWordAt_4 ?_
  refine pv_iload_1 (pc := 5) dX12_isWordAt_5 ?_
  refine pv_icmp_ge (pc := 6) (tgt := 32) dX12_isWordAt_6 (by decide) (fun q => absurd q (by decide)) (fun _ => ?_)
  refine pv_iload_3 (pc := 9) dX12_isWordAt_9 ?_
  refine pv_aload_0 (pc := 10) dX12_isWordAt_10 ?_
  refine pv_getR (pc := 11) dX12_isWordAt_11 fg_X12_58_12 rfl (by decide) (sx_61 hT) (rx_61_21 hR) ?_
  refine pv_iload_2 (pc := 14) dX12_isWordAt_14 ?_
  refine pv_ialoadj (pc := 15) dX12_isWordAt_15 (sx_74 hT) (j := 5) (by decide) (by unfold vp_in; decide) ?_
  refine pv_topv2 (y := 101) (hx.2.2.2.2.2 5 101 rfl) ?_
  refine pv_if_ne (pc := 16) (tgt := 23) dX12_isWordAt_16 (by decide) (fun _ => ?_) (fun q => absurd q (by decide))
  refine pv_iconst (pc := 23) (v := 0) dX12_isWordAt_23 (by decide) ?_
  refine pv_iadd (pc := 24) dX12_isWordAt_24 ?_
  refine pv_topv (y := 0) (by decide) ?_
  refine pv_istore_3 (pc := 25) dX12_isWordAt_25 (by decide) rfl ?_
  refine pv_iinc_2 (pc := 26) (v := 6) dX12_isWordAt_26 (by decide) (by decide) rfl ?_
  refine pv_goto (pc := 29) (tgt := 4) dX12_isWordAt_29 (by decide) ?_
  refine pv_iload_3 (pc := 4) dX12_isWordAt_4 ?_
  refine pv_iload_1 (pc := 5) dX12_isWordAt_5 ?_
  refine pv_icmp_ge (pc := 6) (tgt := 32) dX12_isWordAt_6 (by decide) (fun q => absurd q (by decide)) (fun _ => ?_)
  refine pv_iload_3 (pc := 9) dX12_isWordAt_9 ?_
  refine pv_aload_0 (pc := 10) dX12_isWordAt_10 ?_
  refine pv_getR (pc := 11) dX12_isWordAt_11 fg_X12_58_12 rfl (by decide) (sx_61 hT) (rx_61_21 hR) ?_
  refine pv_iload_2 (pc := 14) dX12_isWordAt_14 ?_
  refine pv_ialoadj (pc := 15) dX12_isWordAt_15 (sx_74 hT) (j := 6) (by decide) (by unfold vp_in; decide) ?_
  refine pv_topv2 (y := 32) (hx.2.2.2.2.2 6 32 rfl) ?_
  refine pv_if_ne (pc := 16) (tgt := 23) dX12_isWordAt_16 (by decide) (fun _ => ?_) (fun q => absurd q (by decide))
  refine pv_iconst (pc := 23) (v := 0) dX12_isWordAt_23 (by decide) ?_
  refine pv_iadd (pc := 24) dX12_isWordAt_24 ?_
  refine pv_topv (y := 0) (by decide) ?_
  refine pv_istore_3 (pc := 25) dX12_isWordAt_25 (by decide) rfl ?_
  refine pv_iinc_2 (pc := 26) (v := 7) dX12_isWordAt_26 (by decide) (by decide) rfl ?_
  refine pv_goto (pc := 29) (tgt := 4) dX12_isWordAt_29 (by decide) ?_
  refine pv_iload_3 (pc := 4) dX12_isWordAt_4 ?_
  refine pv_iload_1 (pc := 5) dX12_isWordAt_5 ?_
  refine pv_icmp_ge (pc := 6) (tgt := 32) dX12_isWordAt_6 (by decide) (fun q => absurd q (by decide)) (fun _ => ?_)
  refine pv_iload_3 (pc := 9) dX12_isWordAt_9 ?_
  refine pv_aload_0 (pc := 10) dX12_isWordAt_10 ?_
  refine pv_getR (pc := 11) dX12_isWordAt_11 fg_X12_58_12 rfl (by decide) (sx_61 hT) (rx_61_21 hR) ?_
  refine pv_iload_2 (pc := 14) dX12_isWordAt_14 ?_
  refine pv_ialoadj (pc := 15) dX12_isWordAt_15 (sx_74 hT) (j := 7) (by decide) (by unfold vp_in; decide) ?_
  refine pv_topv2 (y := 0) (hx.2.2.2.2.2 7 0 rfl) ?_
  refine pv_if_ne (pc := 16) (tgt := 23) dX12_isWordAt_16 (by decide) (fun q => absurd q (by decide)) (fun _ => ?_)
  refine pv_iconst (pc := 19) (v := 1) dX12_isWordAt_19 (by decide) ?_
  refine pv_goto (pc := 20) (tgt := 24) dX12_isWordAt_20 (by decide) ?_
  refine pv_iadd (pc := 24) dX12_isWordAt_24 ?_
  refine pv_topv (y := 1) (by decide) ?_
  refine pv_istore_3 (pc := 25) dX12_isWordAt_25 (by decide) rfl ?_
  refine pv_iinc_2 (pc := 26) (v := 8) dX12_isWordAt_26 (by decide) (by decide) rfl ?_
  refine pv_goto (pc := 29) (tgt := 4) dX12_isWordAt_29 (by decide) ?_
  refine pv_iload_3 (pc := 4) dX12_isWordAt_4 ?_
  refine pv_iload_1 (pc := 5) dX12_isWordAt_5 ?_
  refine pv_icmp_ge (pc := 6) (tgt := 32) dX12_isWordAt_6 (by decide) (fun _ => ?_) (fun q => absurd q (by decide))
  refine pv_aload_0 (pc := 32) dX12_isWordAt_32 ?_
  refine pv_getI (pc := 33) dX12_isWordAt_33 fg_X12_169_12 rfl (by decide) (sx_61 hT) ?_
  refine pv_istore_3 (pc := 36) dX12_isWordAt_36 (by decide) rfl ?_
  rw [hp]
  exact l_wat hT hR hx b_f4 8 r b_t1 hr

set_option maxRecDepth 100000 in
set_option maxHeartbeats 4000000 in
theorem c_X12_isWordAt2 {G : pv_G} {d : Nat} {c : Nat → Int32} {e r : Nat} {s : Int32} {t : pv_T} {I : pv_I} {L : pv_L} {Rf : pv_R} (hT : sh_ok t) (hR : rf_ok Rf) (hx : b_tx c e s I L) (hp : I 61 24 = Int32.ofNat r) (hr : r ≤ e) : pv_Mt G mX12_isWordAt d 0 0 [.ref 61, .int 2] t I L Rf (pv_is (some (.int (pv_b (b_lit c e b_f5 r).2))) t I L Rf) := by
  refine pv_mt mgX12_isWordAt.2.2.2.2.2 [.ref 61, .int 2, .retAddr 0, .retAddr 0] rfl (Nat.le_of_ble_eq_true rfl) ?_
  refine pv_iconst (pc := 0) (v := 0) dX12_isWordAt_0 (by decide) ?_
  refine pv_istore_2 (pc := 1) dX12_isWordAt_1 (by decide) rfl ?_
  refine pv_iconst (pc := 2) (v := 0) dX12_isWordAt_2 (by decide) ?_
  refine pv_istore_3 (pc := 3) dX12_isWordAt_3 (by decide) rfl ?_
  refine pv_iload_3 (pc := 4) dX12_isWordAt_4 ?_
  refine pv_iload_1 (pc := 5) dX12_isWordAt_5 ?_
  refine pv_icmp_ge (pc := 6) (tgt := 32) dX12_isWordAt_6 (by decide) (fun q => absurd q (by decide)) (fun _ => ?_)
  refine pv_iload_3 (pc := 9) dX12_isWordAt_9 ?_
  refine pv_aload_0 (pc := 10) dX12_isWordAt_10 ?_
  refine pv_getR (pc := 11) dX12_isWordAt_11 fg_X12_58_12 rfl (by decide) (sx_61 hT) (rx_61_21 hR) ?_
  refine pv_iload_2 (pc := 14) dX12_isWordAt_14 ?_
  refine pv_ialoadj (pc := 15) dX12_isWordAt_15 (sx_74 hT) (j := 0) (by decide) (by unfold vp_in; decide) ?_
  refine pv_topv2 (y := 102) (hx.2.2.2.2.2 0 102 rfl) ?_
  refine pv_if_ne (pc := 16) (tgt := 23) dX12_isWordAt_16 (by decide) (fun _ => ?_) (fun q => absurd q (by decide))
  refine pv_iconst (pc := 23) (v := 0) dX12_isWordAt_23 (by decide) ?_
  refine pv_iadd (pc := 24) dX12_isWordAt_24 ?_
  refine pv_topv (y := 0) (by decide) ?_
  refine pv_istore_3 (pc := 25) dX12_isWordAt_25 (by decide) rfl ?_
  refine pv_iinc_2 (pc := 26) (v := 1) dX12_isWordAt_26 (by decide) (by decide) rfl ?_
  refine pv_goto (pc := 29) (tgt := 4) dX12_isWordAt_29 (by decide) ?_
  refine pv_iload_3 (pc := 4) dX12_isWordAt_4 ?_
  refine pv_iload_1 (pc := 5) dX12_isWordAt_5 ?_
  refine pv_icmp_ge (pc := 6) (tgt := 32) dX12_isWordAt_6 (by decide) (fun q => absurd q (by decide)) (fun _ => ?_)
  refine pv_iload_3 (pc := 9) dX12_isWordAt_9 ?_
  refine pv_aload_0 (pc := 10) dX12_isWordAt_10 ?_
  refine pv_getR (pc := 11) dX12_isWordAt_11 fg_X12_58_12 rfl (by decide) (sx_61 hT) (rx_61_21 hR) ?_
  refine pv_iload_2 (pc := 14) dX12_isWordAt_14 ?_
  refine pv_ialoadj (pc := 15) dX12_isWordAt_15 (sx_74 hT) (j := 1) (by decide) (by unfold vp_in; decide) ?_
  refine pv_topv2 (y := 105) (hx.2.2.2.2.2 1 105 rfl) ?_
  refine pv_if_ne (pc := 16) (tgt := 23) dX12_isWordAt_16 (by decide) (fun _ => ?_) (fun q => absurd q (by decide))
  refine pv_iconst (pc := 23) (v := 0) dX12_isWordAt_23 (by decide) ?_
  refine pv_iadd (pc := 24) dX12_isWordAt_24 ?_
  refine pv_topv (y := 0) (by decide) ?_
  refine pv_istore_3 (pc := 25) dX12_isWordAt_25 (by decide) rfl ?_
  refine pv_iinc_2 (pc := 26) (v := 2) dX12_isWordAt_26 (by decide) (by decide) rfl ?_
  refine pv_goto (pc := 29) (tgt := 4) dX12_isWordAt_29 (by decide) ?_
  refine pv_iload_3 (pc := 4) dX12_isWordAt_4 ?_
  refine pv_iload_1 (pc := 5) dX12_isWordAt_5 ?_
  refine pv_icmp_ge (pc := 6) (tgt := 32) dX12_isWordAt_6 (by decide) (fun q => absurd q (by decide)) (fun _ => ?_)
  refine pv_iload_3 (pc := 9) dX12_isWordAt_9 ?_
  refine pv_aload_0 (pc := 10) dX12_isWordAt_10 ?_
  refine pv_getR (pc := 11) dX12_isWordAt_11 fg_X12_58_12 rfl (by decide) (sx_61 hT) (rx_61_21 hR) ?_
  refine pv_iload_2 (pc := 14) dX12_isWordAt_14 ?_
  refine pv_ialoadj (pc := 15) dX12_isWordAt_15 (sx_74 hT) (j := 2) (by decide) (by unfold vp_in; decide) ?_
  refine pv_topv2 (y := 103) (hx.2.2.2.2.2 2 103 rfl) ?_
  refine pv_if_ne (pc := 16) (tgt := 23) dX12_isWordAt_16 (by decide) (fun _ => ?_) (fun q => absurd q (by decide))
  refine pv_iconst (pc := 23) (v := 0) dX12_isWordAt_23 (by decide) ?_
  refine pv_iadd (pc := 24) dX12_isWordAt_24 ?_
  refine pv_topv (y := 0) (by decide) ?_
  refine pv_istore_3 (pc := 25) dX12_isWordAt_25 (by decide) rfl ?_
  refine pv_iinc_2 (pc := 26) (v := 3) dX12_isWordAt_26 (by decide) (by decide) rfl ?_
  refine pv_goto (pc := 29) (tgt := 4) dX12_isWordAt_29 (by decide) ?_
  refine pv_iload_3 (pc := 4) dX12_isWordAt_4 ?_
  refine pv_iload_1 (pc := 5) dX12_isWordAt_5 ?_
  refine pv_icmp_ge (pc := 6) (tgt := 32) dX12_isWordAt_6 (by decide) (fun q => absurd q (by decide)) (fun _ => ?_)
  refine pv_iload_3 (pc := 9) dX12_isWordAt_9 ?_
  refine pv_aload_0 (pc := 10) dX12_isWordAt_10 ?_
  refine pv_getR (pc := 11) dX12_isWordAt_11 fg_X12_58_12 rfl (by decide) (sx_61 hT) (rx_61_21 hR) ?_
  refine pv_iload_2 (pc := 14) dX12_isWordAt_14 ?_
  refine pv_ialoadj (pc := 15) dX12_isWordAt_15 (sx_74 hT) (j := 3) (by decide) (by unfold vp_in; decide) ?_
  refine pv_topv2 (y := 117) (hx.2.2.2.2.2 3 117 rfl) ?_
  refine pv_if_ne (pc := 16) (tgt := 23) dX12_isWordAt_16 (by decide) (fun _ => ?_) (fun q => absurd q (by decide))
  refine pv_iconst (pc := 23) (v := 0) dX12_isWordAt_23 (by decide) ?_
  refine pv_iadd (pc := 24) dX12_isWordAt_24 ?_
  refine pv_topv (y := 0) (by decide) ?_
  refine pv_istore_3 (pc := 25) dX12_isWordAt_25 (by decide) rfl ?_
  refine pv_iinc_2 (pc := 26) (v := 4) dX12_isWordAt_26 (by decide) (by decide) rfl ?_
  refine pv_goto (pc := 29) (tgt := 4) dX12_isWordAt_29 (by decide) ?_
  refine pv_iload_3 (pc := 4) dX12_isWordAt_4 ?_
  refine pv_iload_1 (pc := 5) dX12_isWordAt_5 ?_
  refine pv_icmp_ge (pc := 6) (tgt := 32) dX12_isWordAt_6 (by decide) (fun q => absurd q (by decide)) (fun _ => ?_)
  refine pv_iload_3 (pc := 9) dX12_isWordAt_9 ?_
  refine pv_aload_0 (pc := 10) dX12_isWordAt_10 ?_
  refine pv_getR (pc := 11) dX12_isWordAt_11 fg_X12_58_12 rfl (by decide) (sx_61 hT) (rx_61_21 hR) ?_
  refine pv_iload_2 (pc := 14) dX12_isWordAt_14 ?_
  refine pv_ialoadj (pc := 15) dX12_isWordAt_15 (sx_74 hT) (j := 4) (by decide) (by unfold vp_in; decide) ?_
  refine pv_topv2 (y := 114) (hx.2.2.2.2.2 4 114 rfl) ?_
  refine pv_if_ne (pc := 16) (tgt := 23) dX12_isWordAt_16 (by decide) (fun _ => ?_) (fun q => absurd q (by decide))
  refine pv_iconst (pc := 23) (v := 0) dX12_isWordAt_23 (by decide) ?_
  refine pv_iadd (pc := 24) dX12_isWordAt_24 ?_
  refine pv_topv (y := 0) (by decide) ?_
  refine pv_istore_3 (pc := 25) dX12_isWordAt_25 (by decide) rfl ?_
  refine pv_iinc_2 (pc := 26) (v := 5) dX12_isWordAt_26 (by decide) (by decide) rfl ?_
  refine pv_goto (pc := 29) (tgt := 4) dX12_isWordAt_29 (by decide) ?_
  refine pv_iload_3 (pc := 4) dX12_isWordAt_4 ?_
  refine pv_iload_1 (pc := 5) dX12_isWordAt_5 ?_
  refine pv_icmp_ge (pc := 6) (tgt := 32) dX12_isWordAt_6 (by decide) (fun q => absurd q (by decide)) (fun _ => ?_)
  refine pv_iload_3 (pc := 9) dX12_isWordAt_9 ?_
  refine pv_aload_0 (pc := 10) dX12_isWordAt_10 ?_
  refine pv_getR (pc := 11) dX12_isWordAt_11 fg_X12_58_12 rfl (by decide) (sx_61 hT) (rx_61_21 hR) ?_
  refine pv_iload_2 (pc := 14) dX12_isWordAt_14 ?_
  refine pv_ialoadj (pc := 15) dX12_isWordAt_15 (sx_74 hT) (j := 5) (by decide) (by unfold vp_in; decide) ?_
  refine pv_topv2 (y := 101) (hx.2.2.2.2.2 5 101 rfl) ?_
  refine pv_if_ne (pc := 16) (tgt := 23) dX12_isWordAt_16 (by decide) (fun _ => ?_) (fun q => absurd q (by decide))
  refine pv_iconst (pc := 23) (v := 0) dX12_isWordAt_23 (by decide) ?_
  refine pv_iadd (pc := 24) dX12_isWordAt_24 ?_
  refine pv_topv (y := 0) (by decide) ?_
  refine pv_istore_3 (pc := 25) dX12_isWordAt_25 (by decide) rfl ?_
  refine pv_iinc_2 (pc := 26) (v := 6) dX12_isWordAt_26 (by decide) (by decide) rfl ?_
  refine pv_goto (pc := 29) (tgt := 4) dX12_isWordAt_29 (by decide) ?_
  refine pv_iload_3 (pc := 4) dX12_isWordAt_4 ?_
  refine pv_iload_1 (pc := 5) dX12_isWordAt_5 ?_
  refine pv_icmp_ge (pc := 6) (tgt := 32) dX12_isWordAt_6 (by decide) (fun q => absurd q (by decide)) (fun _ => ?_)
  refine pv_iload_3 (pc := 9) dX12_isWordAt_9 ?_
  refine pv_aload_0 (pc := 10) dX12_isWordAt_10 ?_
  refine pv_getR (pc := 11) dX12_isWordAt_11 fg_X12_58_12 rfl (by decide) (sx_61 hT) (rx_61_21 hR) ?_
  refine pv_iload_2 (pc := 14) dX12_isWordAt_14 ?_
  refine pv_ialoadj (pc := 15) dX12_isWordAt_15 (sx_74 hT) (j := 6) (by decide) (by unfold vp_in; decide) ?_
  refine pv_topv2 (y := 32) (hx.2.2.2.2.2 6 32 rfl) ?_
  refine pv_if_ne (pc := 16) (tgt := 23) dX12_isWordAt_16 (by decide) (fun _ => ?_) (fun q => absurd q (by decide))
  refine pv_iconst (pc := 23) (v := 0) dX12_isWordAt_23 (by decide) ?_
  refine pv_iadd (pc := 24) dX12_isWordAt_24 ?_
  refine pv_topv (y := 0) (by decide) ?_
  refine pv_istore_3 (pc := 25) dX12_isWordAt_25 (by decide) rfl ?_
  refine pv_iinc_2 (pc := 26) (v := 7) dX12_isWordAt_26 (by decide) (by decide) rfl ?_
  refine pv_goto (pc := 29) (tgt := 4) dX12_isWordAt_29 (by decide) ?_
  refine pv_iload_3 (pc := 4) dX12_isWordAt_4 ?_
  refine pv_iload_1 (pc := 5) dX12_isWordAt_5 ?_
  refine pv_icmp_ge (pc := 6) (tgt := 32) dX12_isWordAt_6 (by decide) (fun q => absurd q (by decide)) (fun _ => ?_)
  refine pv_iload_3 (pc := 9) dX12_isWordAt_9 ?_
  refine pv_aload_0 (pc := 10) dX12_isWordAt_10 ?_
  refine pv_getR (pc := 11) dX12_isWordAt_11 fg_X12_58_12 rfl (by decide) (sx_61 hT) (rx_61_21 hR) ?_
  refine pv_iload_2 (pc := 14) dX12_isWordAt_14 ?_
  refine pv_ialoadj (pc := 15) dX12_isWordAt_15 (sx_74 hT) (j := 7) (by decide) (by unfold vp_in; decide) ?_
  refine pv_topv2 (y := 0) (hx.2.2.2.2.2 7 0 rfl) ?_
  refine pv_if_ne (pc := 16) (tgt := 23) dX12_isWordAt_16 (by decide) (fun q => absurd q (by decide)) (fun _ => ?_)
  refine pv_iconst (pc := 19) (v := 1) dX12_isWordAt_19 (by decide) ?_
  refine pv_goto (pc := 20) (tgt := 24) dX12_isWordAt_20 (by decide) ?_
  refine pv_iadd (pc := 24) dX12_isWordAt_24 ?_
  refine pv_topv (y := 1) (by decide) ?_
  refine pv_istore_3 (pc := 25) dX12_isWordAt_25 (by decide) rfl ?_
  refine pv_iinc_2 (pc := 26) (v := 8) dX12_isWordAt_26 (by decide) (by decide) rfl ?_
  refine pv_goto (pc := 29) (tgt := 4) dX12_isWordAt_29 (by decide) ?_
  refine pv_iload_3 (pc := 4) dX12_isWordAt_4 ?_
  refine pv_iload_1 (pc := 5) dX12_isWordAt_5 ?_
  refine pv_icmp_ge (pc := 6) (tgt := 32) dX12_isWordAt_6 (by decide) (fun q => absurd q (by decide)) (fun _ => ?_)
  refine pv_iload_3 (pc := 9) dX12_isWordAt_9 ?_
  refine pv_aload_0 (pc := 10) dX12_isWordAt_10 ?_
  refine pv_getR (pc := 11) dX12_isWordAt_11 fg_X12_58_12 rfl (by decide) (sx_61 hT) (rx_61_21 hR) ?_
  refine pv_iload_2 (pc := 14) dX12_isWordAt_14 ?_
  refine pv_ialoadj (pc := 15) dX12_isWordAt_15 (sx_74 hT) (j := 8) (by decide) (by unfold vp_in; decide) ?_
  refine pv_topv2 (y := 99) (hx.2.2.2.2.2 8 99 rfl) ?_
  refine pv_if_ne (pc := 16) (tgt := 23) dX12_isWordAt_16 (by decide) (fun _ => ?_) (fun q => absurd q (by decide))
  refine pv_iconst (pc := 23) (v := 0) dX12_isWordAt_23 (by decide) ?_
  refine pv_iadd (pc := 24) dX12_isWordAt_24 ?_
  refine pv_topv (y := 1) (by decide) ?_
  refine pv_istore_3 (pc := 25) dX12_isWordAt_25 (by decide) rfl ?_
  refine pv_iinc_2 (pc := 26) (v := 9) dX12_isWordAt_26 (by decide) (by decide) rfl ?_
  refine pv_goto (pc := 29) (tgt := 4) dX12_isWordAt_29 (by decide) ?_
  refine pv_iload_3 (pc := 4) dX12_isWordAt_4 ?_
  refine pv_iload_1 (pc := 5) dX12_isWordAt_5 ?_
  refine pv_icmp_ge (pc := 6) (tgt := 32) dX12_isWordAt_6 (by decide) (fun q => absurd q (by decide)) (fun _ => ?_)
  refine pv_iload_3 (pc := 9) dX12_isWordAt_9 ?_
  refine pv_aload_0 (pc := 10) dX12_isWordAt_10 ?_
  refine pv_getR (pc := 11) dX12_isWordAt_11 fg_X12_58_12 rfl (by decide) (sx_61 hT) (rx_61_21 hR) ?_
  refine pv_iload_2 (pc := 14) dX12_isWordAt_14 ?_
  refine pv_ialoadj (pc := 15) dX12_isWordAt_15 (sx_74 hT) (j := 9) (by decide) (by unfold vp_in; decide) ?_
  refine pv_topv2 (y := 97) (hx.2.2.2.2.2 9 97 rfl) ?_
  refine pv_if_ne (pc := 16) (tgt := 23) dX12_isWordAt_16 (by decide) (fun _ => ?_) (fun q => absurd q (by decide))
  refine pv_iconst (pc := 23) (v := 0) dX12_isWordAt_23 (by decide) ?_
  refine pv_iadd (pc := 24) dX12_isWordAt_24 ?_
  refine pv_topv (y := 1) (by decide) ?_
  refine pv_istore_3 (pc := 25) dX12_isWordAt_25 (by decide) rfl ?_
  refine pv_iinc_2 (pc := 26) (v := 10) dX12_isWordAt_26 (by decide) (by decide) rfl ?_
  refine pv_goto (pc := 29) (tgt := 4) dX12_isWordAt_29 (by decide) ?_
  refine pv_iload_3 (pc := 4) dX12_isWordAt_4 ?_
  refine pv_iload_1 (pc := 5) dX12_isWordAt_5 ?_
  refine pv_icmp_ge (pc := 6) (tgt := 32) dX12_isWordAt_6 (by decide) (fun q => absurd q (by decide)) (fun _ => ?_)
  refine pv_iload_3 (pc := 9) dX12_isWordAt_9 ?_
  refine pv_aload_0 (pc := 10) dX12_isWordAt_10 ?_
  refine pv_getR (pc := 11) dX12_isWordAt_11 fg_X12_58_12 rfl (by decide) (sx_61 hT) (rx_61_21 hR) ?_
  refine pv_iload_2 (pc := 14) dX12_isWordAt_14 ?_
  refine pv_ialoadj (pc := 15) dX12_isWordAt_15 (sx_74 hT) (j := 10) (by decide) (by unfold vp_in; decide) ?_
  refine pv_topv2 (y := 108) (hx.2.2.2.2.2 10 108 rfl) ?_
  refine pv_if_ne (pc := 16) (tgt := 23) dX12_isWordAt_16 (by decide) (fun _ => ?_) (fun q => absurd q (by decide))
  refine pv_iconst (pc := 23) (v := 0) dX12_isWordAt_23 (by decide) ?_
  refine pv_iadd (pc := 24) dX12_isWordAt_24 ?_
  refine pv_topv (y := 1) (by decide) ?_
  refine pv_istore_3 (pc := 25) dX12_isWordAt_25 (by decide) rfl ?_
  refine pv_iinc_2 (pc := 26) (v := 11) dX12_isWordAt_26 (by decide) (by decide) rfl ?_
  refine pv_goto (pc := 29) (tgt := 4) dX12_isWordAt_29 (by decide) ?_
  refine pv_iload_3 (pc := 4) dX12_isWordAt_4 ?_
  refine pv_iload_1 (pc := 5) dX12_isWordAt_5 ?_
  refine pv_icmp_ge (pc := 6) (tgt := 32) dX12_isWordAt_6 (by decide) (fun q => absurd q (by decide)) (fun _ => ?_)
  refine pv_iload_3 (pc := 9) dX12_isWordAt_9 ?_
  refine pv_aload_0 (pc := 10) dX12_isWordAt_10 ?_
  refine pv_getR (pc := 11) dX12_isWordAt_11 fg_X12_58_12 rfl (by decide) (sx_61 hT) (rx_61_21 hR) ?_
  refine pv_iload_2 (pc := 14) dX12_isWordAt_14 ?_
  refine pv_ialoadj (pc := 15) dX12_isWordAt_15 (sx_74 hT) (j := 11) (by decide) (by unfold vp_in; decide) ?_
  refine pv_topv2 (y := 108) (hx.2.2.2.2.2 11 108 rfl) ?_
  refine pv_if_ne (pc := 16) (tgt := 23) dX12_isWordAt_16 (by decide) (fun _ => ?_) (fun q => absurd q (by decide))
  refine pv_iconst (pc := 23) (v := 0) dX12_isWordAt_23 (by decide) ?_
  refine pv_iadd (pc := 24) dX12_isWordAt_24 ?_
  refine pv_topv (y := 1) (by decide) ?_
  refine pv_istore_3 (pc := 25) dX12_isWordAt_25 (by decide) rfl ?_
  refine pv_iinc_2 (pc := 26) (v := 12) dX12_isWordAt_26 (by decide) (by decide) rfl ?_
  refine pv_goto (pc := 29) (tgt := 4) dX12_isWordAt_29 (by decide) ?_
  refine pv_iload_3 (pc := 4) dX12_isWordAt_4 ?_
  refine pv_iload_1 (pc := 5) dX12_isWordAt_5 ?_
  refine pv_icmp_ge (pc := 6) (tgt := 32) dX12_isWordAt_6 (by decide) (fun q => absurd q (by decide)) (fun _ => ?_)
  refine pv_iload_3 (pc := 9) dX12_isWordAt_9 ?_
  refine pv_aload_0 (pc := 10) dX12_isWordAt_10 ?_
  refine pv_getR (pc := 11) dX12_isWordAt_11 fg_X12_58_12 rfl (by decide) (sx_61 hT) (rx_61_21 hR) ?_
  refine pv_iload_2 (pc := 14) dX12_isWordAt_14 ?_
  refine pv_ialoadj (pc := 15) dX12_isWordAt_15 (sx_74 hT) (j := 12) (by decide) (by unfold vp_in; decide) ?_
  refine pv_topv2 (y := 32) (hx.2.2.2.2.2 12 32 rfl) ?_
  refine pv_if_ne (pc := 16) (tgt := 23) dX12_isWordAt_16 (by decide) (fun _ => ?_) (fun q => absurd q (by decide))
  refine pv_iconst (pc := 23) (v := 0) dX12_isWordAt_23 (by decide) ?_
  refine pv_iadd (pc := 24) dX12_isWordAt_24 ?_
  refine pv_topv (y := 1) (by decide) ?_
  refine pv_istore_3 (pc := 25) dX12_isWordAt_25 (by decide) rfl ?_
  refine pv_iinc_2 (pc := 26) (v := 13) dX12_isWordAt_26 (by decide) (by decide) rfl ?_
  refine pv_goto (pc := 29) (tgt := 4) dX12_isWordAt_29 (by decide) ?_
  refine pv_iload_3 (pc := 4) dX12_isWordAt_4 ?_
  refine pv_iload_1 (pc := 5) dX12_isWordAt_5 ?_
  refine pv_icmp_ge (pc := 6) (tgt := 32) dX12_isWordAt_6 (by decide) (fun q => absurd q (by decide)) (fun _ => ?_)
  refine pv_iload_3 (pc := 9) dX12_isWordAt_9 ?_
  refine pv_aload_0 (pc := 10) dX12_isWordAt_10 ?_
  refine pv_getR (pc := 11) dX12_isWordAt_11 fg_X12_58_12 rfl (by decide) (sx_61 hT) (rx_61_21 hR) ?_
  refine pv_iload_2 (pc := 14) dX12_isWordAt_14 ?_
  refine pv_ialoadj (pc := 15) dX12_isWordAt_15 (sx_74 hT) (j := 13) (by decide) (by unfold vp_in; decide) ?_
  refine pv_topv2 (y := 0) (hx.2.2.2.2.2 13 0 rfl) ?_
  refine pv_if_ne (pc := 16) (tgt := 23) dX12_isWordAt_16 (by decide) (fun q => absurd q (by decide)) (fun _ => ?_)
  refine pv_iconst (pc := 19) (v := 1) dX12_isWordAt_19 (by decide) ?_
  refine pv_goto (pc := 20) (tgt := 24) dX12_isWordAt_20 (by decide) ?_
  refine pv_iadd (pc := 24) dX12_isWordAt_24 ?_
  refine pv_topv (y := 2) (by decide) ?_
  refine pv_istore_3 (pc := 25) dX12_isWordAt_25 (by decide) rfl ?_
  refine pv_iinc_2 (pc := 26) (v := 14) dX12_isWordAt_26 (by decide) (by decide) rfl ?_
  refine pv_goto (pc := 29) (tgt := 4) dX12_isWordAt_29 (by decide) ?_
  refine pv_iload_3 (pc := 4) dX12_isWordAt_4 ?_
  refine pv_iload_1 (pc := 5) dX12_isWordAt_5 ?_
  refine pv_icmp_ge (pc := 6) (tgt := 32) dX12_isWordAt_6 (by decide) (fun _ => ?_) (fun q => absurd q (by decide))
  refine pv_aload_0 (pc := 32) dX12_isWordAt_32 ?_
  refine pv_getI (pc := 33) dX12_isWordAt_33 fg_X12_169_12 rfl (by decide) (sx_61 hT) ?_
  refine pv_istore_3 (pc := 36) dX12_isWordAt_36 (by decide) rfl ?_
  rw [hp]
  exact l_wat hT hR hx b_f5 14 r b_t2 hr

theorem b_lit_app (c : Nat → Int32) (e : Nat) : ∀ (l m : List Int32) (r : Nat), (b_lit c e (l ++ m) r).2 = true → (b_lit c e l r).2 = true
  | [], m, r, _ => rfl
  | x :: l, m, r, h => by
    rw [List.cons_append, b_lit] at h
    rw [b_lit]
    split at h
    · rename_i g; rw [if_pos g]; exact b_lit_app c e l m (r + 1) h
    · exact absurd (show false = true from h) (by decide)
def b_sp (c : Nat → Int32) (e r : Nat) : Prop := r < e ∧ c r = 32
abbrev BR : Type := Except Nat (Nat × pv_I × pv_L)
def b_fg2 (c : Nat → Int32) (e r k0 : Nat) (k a : Int32) (J : pv_I) (K : pv_L) : BR := if r < e ∧ c r = 32 then (match b_num c e (r + 1) 1 9 with
  | none => .error (r + 1)
  | some p => .ok (p.1, S_adds J k a p.2, K)) else .error r
def b_fg1 (c : Nat → Int32) (e r : Nat) (k : Int32) (J : pv_I) (K : pv_L) : BR := if r < e ∧ c r = 32 then (match b_num c e (r + 1) 0 9 with
  | none => .error (r + 1)
  | some p => b_fg2 c e p.1 0 k p.2 J K) else .error r
def b_fg0 (c : Nat → Int32) (e r : Nat) (J : pv_I) (K : pv_L) : BR := match b_num c e r 0 6 with
  | none => .error r
  | some p => b_fg1 c e p.1 p.2 J K
def b_cl0 (c : Nat → Int32) (e r : Nat) (J : pv_I) (K : pv_L) : BR := match b_num c e r 0 (J 0 0 - 1) with
  | none => .error r
  | some p => if (w_cal J K p.2.toNatClampNeg).1 = true then .ok (p.1, (w_cal J K p.2.toNatClampNeg).2) else .error r
def b_st1 (c : Nat → Int32) (e r : Nat) (k : Int32) (J : pv_I) (K : pv_L) : BR := if r < e ∧ c r = 32 then (match b_num c e (r + 1) 0 999 with
  | none => .error (r + 1)
  | some p => if s_num k.toInt64 p.2.toInt64 = true then .ok (p.1, J, w_pq K k.toInt64 p.2.toInt64) else .error (r + 1)) else .error r
def b_st0 (c : Nat → Int32) (e r : Nat) (J : pv_I) (K : pv_L) : BR := match b_num c e r 0 999 with
  | none => .error r
  | some p => b_st1 c e p.1 p.2 J K
def b_item (c : Nat → Int32) (e r : Nat) (J : pv_I) (K : pv_L) : BR := if (b_lit c e b_f6 r).2 = true ∧ J 0 0 = 8 then .error r else match b_word c e r with
  | none => .error (b_far c e r)
  | some p => if p.1 = 0 then b_fg0 c e p.2 J K else if p.1 = 1 then b_cl0 c e p.2 J K else b_st0 c e p.2 J K
def bI (I I1 : pv_I) : Prop := ∀ a j, a ≠ 63 → a ≠ 64 → a ≠ 65 → a ≠ 66 → a ≠ 73 → a ≠ 75 → ¬ (a = 61 ∧ (j < 4 ∨ j = 24 ∨ j = 26 ∨ j = 27)) → I1 a j = I a j
def bL (L L1 : pv_L) : Prop := ∀ a j, ¬ (a = 61 ∧ (j = 5 ∨ j = 6 ∨ j = 18 ∨ j = 19)) → L1 a j = L a j
theorem bI.rf {I : pv_I} : bI I I := fun _ _ _ _ _ _ _ _ _ => rfl
theorem bL.rf {L : pv_L} : bL L L := fun _ _ _ => rfl
theorem bI.tr {I I1 I2 : pv_I} (h : bI I I1) (g : bI I1 I2) : bI I I2 := fun a j h1 h2 h3 h4 h5 h6 h7 => (g a j h1 h2 h3 h4 h5 h6 h7).trans (h a j h1 h2 h3 h4 h5 h6 h7)
theorem bL.tr {L L1 L2 : pv_L} (h : bL L L1) (g : bL L1 L2) : bL L L2 := fun a j h1 => (g a j h1).trans (h a j h1)
theorem bI.u {I I1 : pv_I} (h : bI I I1) (a j : Nat) (v : Int32) (hn : a = 63 ∨ a = 64 ∨ a = 65 ∨ a = 66 ∨ a = 73 ∨ a = 75 ∨ (a = 61 ∧ (j < 4 ∨ j = 24 ∨ j = 26 ∨ j = 27))) : bI I (pv_u I1 a j v) := fun b i h1 h2 h3 h4 h5 h6 h7 => by rw [pv_u_app, if_neg (by omega)]; exact h b i h1 h2 h3 h4 h5 h6 h7
theorem bI.at {I I1 : pv_I} (h : bI I I1) (c : Nat → Int32) : bI I (m_at I1 c) := (((h.u 73 0 _ (by omega)).u 73 1 _ (by omega)).u 73 2 _ (by omega)).u 73 3 _ (by omega)
theorem bI.st {I I1 : pv_I} (h : bI I I1) (c : Nat → Int32) : bI I (m_st I1 c) := (((h.u 66 0 _ (by omega)).u 66 1 _ (by omega)).u 66 2 _ (by omega)).u 66 3 _ (by omega)
theorem bL.u {L L1 : pv_L} (h : bL L L1) (j : Nat) (v : Int64) (hn : j = 5 ∨ j = 6 ∨ j = 18 ∨ j = 19) : bL L (pv_u L1 61 j v) := fun b i h1 => by rw [pv_u_app, if_neg (by omega)]; exact h b i h1
theorem bL.pq {L L1 : pv_L} (h : bL L L1) (p q : Int64) : bL L (m_pq L1 p q) := (h.u 18 p (by omega)).u 19 q (by omega)
theorem bL.PQ {L L1 : pv_L} (h : bL L L1) (p q : Int64) : bL L (m_PQ L1 p q) := (h.u 5 p (by omega)).u 6 q (by omega)
theorem bN.bI {I I1 : pv_I} (h : bN I I1) : bI I I1 := fun a j _ _ _ _ _ _ h7 => h a j (fun q => h7 ⟨q.1, by omega⟩)
theorem bN.kS {I I1 : pv_I} {L : pv_L} (h : bN I I1) : kS I L I1 L := ⟨fun j _ => h 61 j (by omega), rfl, rfl, fun a ha => funext fun j => h a j (by omega), fun _ _ => rfl⟩
theorem bx_tx {c : Nat → Int32} {e : Nat} {s : Int32} {I I1 : pv_I} {L L1 : pv_L} (h : bI I I1) (g : bL L L1) (hx : b_tx c e s I L) : b_tx c e s I1 L1 := b_tx_cg hx (h 61 23 (by decide) (by decide) (by decide) (by decide) (by decide) (by decide) (by omega)) (h 61 25 (by decide) (by decide) (by decide) (by decide) (by decide) (by decide) (by omega)) (fun j => h 74 j (by decide) (by decide) (by decide) (by decide) (by decide) (by decide) (by omega)) (fun j => g 71 j (by omega))
set_option maxRecDepth 100000 in
set_option maxHeartbeats 4000000 in
theorem c_X12_callsF {G : pv_G} {d : Nat} {J : pv_I} {K : pv_L} {f : Int32} {t : pv_T} {I : pv_I} {L : pv_L} {Rf : pv_R} (hT : sh_ok t) (hR : rf_ok Rf) (hW : WF J K) (hM : RM J K I L) (hF : w_isF J f) (hd : 3 ≤ d) : pv_Mt G mX12_calls d 0 0 [.ref 61, .int f] t I L Rf (fun v t1 I1 L1 R1 => v = some (.int (pv_b (w_cal J K f.toNatClampNeg).1)) ∧ t1 = t ∧ R1 = Rf ∧ RM (w_cal J K f.toNatClampNeg).2.1 (w_cal J K f.toNatClampNeg).2.2 I1 L1 ∧ bI I I1 ∧ bL L L1 ∧ I1 61 24 = I 61 24) := by
  refine pv_mt mgX12_calls.2.2.2.2.2 [.ref 61, .int f] rfl (Nat.le_of_ble_eq_true rfl) ?_
  have hM1 := hM
  refine pv_aload_0 (pc := 0) dX12_calls_0 ?_
  refine pv_callV0 (pc := 1) dX12_calls_1 mgX12_begins lv_X12_230_12 (by decide) (sx_61 hT) (by omega) (n_begins hT hR hM) rfl rfl (by decide) ?_
  refine pv_aload_0 (pc := 4) dX12_calls_4 ?_
  refine pv_iload_1 (pc := 5) dX12_calls_5 ?_
  refine pv_callV0 (pc := 6) dX12_calls_6 mgX12_figured lv_X12_233_12 (by decide) (sx_61 hT) (by omega) (n_figured hT hR hW hM1 hF (by omega)) rfl rfl (by decide) ?_
  refine pv_aload_0 (pc := 9) dX12_calls_9 ?_
  refine pv_callV1 (pc := 10) dX12_calls_10 mgX12_isRoom lv_X12_236_12 (by decide) (sx_61 hT) (by omega) (c_X12_isRoom hT) rfl rfl (by decide) ?_
  refine pv_if_ne (pc := 13) (tgt := 18) dX12_calls_13 (by decide) (fun h13 => ?_) (fun h13 => ?_)
  · refine pv_aload_0 (pc := 18) dX12_calls_18 ?_
    refine pv_callV0 (pc := 19) dX12_calls_19 mgX12_truly lv_X12_239_12 (by decide) (sx_61 hT) (by omega) (c_X12_truly hT hR) rfl rfl (by decide) ?_
    refine pv_aload_0 (pc := 22) dX12_calls_22 ?_
    refine pv_dup (pc := 23) dX12_calls_23 rfl ?_
    refine pv_getI (pc := 24) dX12_calls_24 fg_X12_213_12 rfl (by decide) (sx_61 hT) ?_
    refine pv_iconst (pc := 27) (v := 1) dX12_calls_27 (by decide) ?_
    refine pv_iadd (pc := 28) dX12_calls_28 ?_
    refine pv_putI (pc := 29) dX12_calls_29 fl_X12_213_12 (fun q => by cases q) ⟨rfl, rfl, rfl⟩ (by decide) (sx_61 hT) ?_
    refine pv_aload_0 (pc := 32) dX12_calls_32 ?_
    refine pv_dup (pc := 33) dX12_calls_33 rfl ?_
    refine pv_getI (pc := 34) dX12_calls_34 fg_X12_216_12 rfl (by decide) (sx_61 hT) ?_
    refine pv_aload_0 (pc := 37) dX12_calls_37 ?_
    refine pv_getR (pc := 38) dX12_calls_38 fg_X12_30_12 rfl (by decide) (sx_61 hT) (rx_61_10 hR) ?_
    refine pv_iload_1 (pc := 41) dX12_calls_41 ?_
    refine pv_ialoadj (pc := 42) dX12_calls_42 (sx_65 hT) rfl (hF.nat hW).1 ?_
    refine pv_iadd (pc := 43) dX12_calls_43 ?_
    refine pv_putI (pc := 44) dX12_calls_44 fl_X12_216_12 (fun q => by cases q) ⟨rfl, rfl, rfl⟩ (by decide) (sx_61 hT) ?_
    refine pv_iconst (pc := 47) (v := 1) dX12_calls_47 (by decide) ?_
    refine pv_iret (pc := 48) dX12_calls_48 rfl rfl ?_
    have h14 : s_room (f_P (J 1 f.toNatClampNeg) (J 2 f.toNatClampNeg) (K 0 0) (K 0 1)) (f_Q (J 1 f.toNatClampNeg) (J 2 f.toNatClampNeg) (K 0 0) (K 0 1)) = true := (pv_b_n0 _).mp h13
    have e : w_cal J K f.toNatClampNeg = (true, w_dn J (f_C (J 1 f.toNatClampNeg) (J 2 f.toNatClampNeg) (J 4)) 1 (J 3 f.toNatClampNeg), w_pq K (f_P (J 1 f.toNatClampNeg) (J 2 f.toNatClampNeg) (K 0 0) (K 0 1)) (f_Q (J 1 f.toNatClampNeg) (J 2 f.toNatClampNeg) (K 0 0) (K 0 1))) := by unfold w_cal; rw [if_pos h14]
    rw [e]
    have hm3 : I 65 f.toNatClampNeg = J 3 f.toNatClampNeg := (hM.2.1 _ (hF.nat hW).2).2.2
    have h1 := (hM.tr (c := f_C (J 1 f.toNatClampNeg) (J 2 f.toNatClampNeg) (J 4)) (p := f_P (J 1 f.toNatClampNeg) (J 2 f.toNatClampNeg) (K 0 0) (K 0 1)) (q := f_Q (J 1 f.toNatClampNeg) (J 2 f.toNatClampNeg) (K 0 0) (K 0 1)))
    have h2 := (h1.f1 (I 61 1 + 1)).f2 (I 61 2 + I 65 f.toNatClampNeg)
    refine ⟨rfl, rfl, rfl, ?_, (((bI.rf.at _).st _).u 61 1 _ (by omega)).u 61 2 _ (by omega), (bL.rf.pq _ _).PQ _ _, rfl⟩
    unfold w_dn
    rw [← hM.1.2.1, ← hM.1.2.2.1, ← hm3]
    exact h2
  · refine pv_iconst (pc := 16) (v := 0) dX12_calls_16 (by decide) ?_
    refine pv_iret (pc := 17) dX12_calls_17 rfl rfl ?_
    have h14 : s_room (f_P (J 1 f.toNatClampNeg) (J 2 f.toNatClampNeg) (K 0 0) (K 0 1)) (f_Q (J 1 f.toNatClampNeg) (J 2 f.toNatClampNeg) (K 0 0) (K 0 1)) = false := (pv_b_0 _).mp h13
    have e : w_cal J K f.toNatClampNeg = (false, J, K) := by unfold w_cal; rw [if_neg (by rw [h14]; decide)]
    rw [e]; exact ⟨rfl, rfl, rfl, hM.scr ((kS.rf.at _).pq _ _), bI.rf.at _, bL.rf.pq _ _, rfl⟩

set_option maxRecDepth 100000 in
set_option maxHeartbeats 4000000 in
theorem c_X12_addsF {G : pv_G} {d : Nat} {J : pv_I} {K : pv_L} {k a c : Int32} {t : pv_T} {I : pv_I} {L : pv_L} {Rf : pv_R} (hT : sh_ok t) (hR : rf_ok Rf) (hW : WF J K) (hM : RM J K I L) (h8 : (J 0 0).toInt < 8) : pv_Mt G mX12_adds d 0 0 [.ref 61, .int k, .int a, .int c] t I L Rf (fun v t1 I1 L1 R1 => (∃ x : Int32, v = some (.int x)) ∧ t1 = t ∧ R1 = Rf ∧ RM (S_adds J k a c) K I1 L1 ∧ bI I I1 ∧ L1 = L ∧ I1 61 24 = I 61 24) := by
  refine pv_mt mgX12_adds.2.2.2.2.2 [.ref 61, .int k, .int a, .int c] rfl (Nat.le_of_ble_eq_true rfl) ?_
  refine pv_aload_0 (pc := 0) dX12_adds_0 ?_
  refine pv_getR (pc := 1) dX12_adds_1 fg_X12_24_12 rfl (by decide) (sx_61 hT) (rx_61_8 hR) ?_
  refine pv_aload_0 (pc := 4) dX12_adds_4 ?_
  refine pv_getI (pc := 5) dX12_adds_5 fg_X12_108_12 rfl (by decide) (sx_61 hT) ?_
  refine pv_iload_1 (pc := 8) dX12_adds_8 ?_
  refine pv_iastorej (pc := 9) dX12_adds_9 (by decide) (sx_63 hT) rfl (by have w0 := hW.1; have e0 := hM.1.1; exact pv_in_of (n := 8) (by show 0 ≤ (I 61 0).toInt; rw [e0]; omega) (by show (I 61 0).toInt < 8; rw [e0]; omega)) ?_
  refine pv_aload_0 (pc := 10) dX12_adds_10 ?_
  refine pv_getR (pc := 11) dX12_adds_11 fg_X12_27_12 rfl (by decide) (sx_61 hT) (rx_61_9 hR) ?_
  refine pv_aload_0 (pc := 14) dX12_adds_14 ?_
  refine pv_getI (pc := 15) dX12_adds_15 fg_X12_108_12 rfl (by decide) (sx_61 hT) ?_
  refine pv_iload_2 (pc := 18) dX12_adds_18 ?_
  refine pv_iastorej (pc := 19) dX12_adds_19 (by decide) (sx_64 hT) rfl (by have w0 := hW.1; have e0 := hM.1.1; exact pv_in_of (n := 8) (by show 0 ≤ (I 61 0).toInt; rw [e0]; omega) (by show (I 61 0).toInt < 8; rw [e0]; omega)) ?_
  refine pv_aload_0 (pc := 20) dX12_adds_20 ?_
  refine pv_getR (pc := 21) dX12_adds_21 fg_X12_30_12 rfl (by decide) (sx_61 hT) (rx_61_10 hR) ?_
  refine pv_aload_0 (pc := 24) dX12_adds_24 ?_
  refine pv_getI (pc := 25) dX12_adds_25 fg_X12_108_12 rfl (by decide) (sx_61 hT) ?_
  refine pv_iload_3 (pc := 28) dX12_adds_28 ?_
  refine pv_iastorej (pc := 29) dX12_adds_29 (by decide) (sx_65 hT) rfl (by have w0 := hW.1; have e0 := hM.1.1; exact pv_in_of (n := 8) (by show 0 ≤ (I 61 0).toInt; rw [e0]; omega) (by show (I 61 0).toInt < 8; rw [e0]; omega)) ?_
  refine pv_aload_0 (pc := 30) dX12_adds_30 ?_
  refine pv_dup (pc := 31) dX12_adds_31 rfl ?_
  refine pv_getI (pc := 32) dX12_adds_32 fg_X12_108_12 rfl (by decide) (sx_61 hT) ?_
  refine pv_dup_x1 (pc := 35) dX12_adds_35 rfl rfl ?_
  refine pv_iconst (pc := 36) (v := 1) dX12_adds_36 (by decide) ?_
  refine pv_iadd (pc := 37) dX12_adds_37 ?_
  refine pv_putI (pc := 38) dX12_adds_38 fl_X12_108_12 (fun q => by cases q) ⟨rfl, rfl, rfl⟩ (by decide) (sx_61 hT) ?_
  refine pv_iret (pc := 41) dX12_adds_41 rfl rfl ?_
  have q := RM.adds hW hM h8 k a c
  exact ⟨⟨_, rfl⟩, rfl, rfl, q, (((bI.rf.u 63 _ _ (by omega)).u 64 _ _ (by omega)).u 65 _ _ (by omega)).u 61 0 _ (by omega), rfl, rfl⟩

