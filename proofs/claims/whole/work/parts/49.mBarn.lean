/-! an item; a barn -/
theorem b_rd {c : Nat → Int32} {e : Nat} {s : Int32} {J : pv_I} {K : pv_L} {I : pv_I} {L : pv_L} {r : Nat} (hM : RM J K I L) (hx : b_tx c e s I L) (h : I 61 24 = Int32.ofNat r) (hr : r ≤ e) : b_in c e s J K I L I L r := ⟨hM, hx, bI.rf, bL.rf, h, hr⟩

theorem b_word_0 {c : Nat → Int32} {e r r1 : Nat} (hp : b_word c e r = some (0, r1)) : (b_lit c e b_w0 r).2 = true := by
  unfold b_word at hp
  split at hp
  · assumption
  · split at hp
    · cases hp
    · split at hp
      · cases hp
      · cases hp
set_option maxRecDepth 100000 in
set_option maxHeartbeats 4000000 in
theorem c_X12_item {G : pv_G} {d : Nat} {c : Nat → Int32} {e r : Nat} {s : Int32} {J : pv_I} {K : pv_L} {t : pv_T} {I : pv_I} {L : pv_L} {Rf : pv_R} (hT : sh_ok t) (hR : rf_ok Rf) (hW : WF J K) (hM : RM J K I L) (hx : b_tx c e s I L) (hp : I 61 24 = Int32.ofNat r) (hr : r ≤ e) (hd : 8 ≤ d) : pv_Mt G mX12_item d 0 0 [.ref 61] t I L Rf (q_item (b_item c e r J K) t I L Rf) := by
  have he := hx.2.1
  have rest : ¬ ((b_lit c e b_f6 r).2 = true ∧ J 0 0 = 8) → ∀ (l1 l2 l3 l4 l5 : Value), pv_V G mX12_item d 0 0 (q_item (b_item c e r J K) t I L Rf) 0 0 38 [.ref 61, l1, l2, l3, l4, l5] [] t I L Rf := by
    intro h8n l1 l2 l3 l4 l5
    refine pv_aload_0 (pc := 38) dX12_item_38 ?_
    refine pv_getI (pc := 39) dX12_item_39 fg_X12_169_12 rfl (by decide) (sx_61 hT) ?_
    refine pv_istore_1 (pc := 42) dX12_item_42 (by decide) rfl ?_
    refine pv_aload_0 (pc := 43) dX12_item_43 ?_
    refine pv_callVq (pc := 44) dX12_item_44 mgX12_word lv_X12_194_12 (by decide) (sx_61 hT) (by omega) (c_X12_word hT hR hx hp hr) rfl rfl (by decide) (fun v t I L Rf hq => ?_)
    obtain ⟨rfl, rfl, rfl, ho⟩ := hq
    rcases ho with ⟨w, r1, hw, hw3, rfl, rfl⟩ | ⟨hw, rfl, rfl⟩
    · have hle := b_word_le hw hr
      have hi1 := (b_rd hM hx hp hr).p (Int32.ofNat r1) r1 rfl hle.2
      have hw012 : w = 0 ∨ w = 1 ∨ w = 2 := by omega
      rcases hw012 with rfl | rfl | rfl
      · have h8 : (J 0 0).toInt < 8 := by
          have w0 := hW.1
          have : ¬ J 0 0 = 8 := fun q => h8n ⟨b_lit_app c e b_f6 [32] r (b_word_0 hw), q⟩
          rw [← Int32.toInt_inj, show (8 : Int32).toInt = 8 by decide] at this
          omega
        refine pv_istore_2 (pc := 47) dX12_item_47 (by decide) rfl ?_
        refine pv_iload_2 (pc := 48) dX12_item_48 ?_
        refine pv_iconst (pc := 49) (v := (-1)) dX12_item_49 (by decide) ?_
        refine pv_icmp_ne (pc := 50) (tgt := 55) dX12_item_50 (by decide) (fun _ => ?_) (fun q => absurd q (by decide))
        refine pv_iload_2 (pc := 55) dX12_item_55 ?_
        refine pv_if_ne (pc := 56) (tgt := 74) dX12_item_56 (by decide) (fun q => absurd q (by decide)) (fun _ => ?_)
        refine pv_aload_0 (pc := 59) dX12_item_59 ?_
        refine pv_getI (pc := 60) dX12_item_60 fg_X12_108_12 rfl (by decide) (sx_61 hT) ?_
        refine pv_bipush (pc := 63) (v := 8) dX12_item_63 (by decide) ?_
        refine pv_icmp_ne (pc := 65) (tgt := 74) dX12_item_65 (by decide) (fun h65 => ?_) (fun h65 => absurd h65 (show ¬ I 61 0 = 8 by rw [hM.1.1]; intro q; rw [q] at h8; exact absurd h8 (by decide)))
        refine pv_iload_2 (pc := 74) dX12_item_74 ?_
        refine pv_if_ne (pc := 75) (tgt := 82) dX12_item_75 (by decide) (fun q => absurd q (by decide)) (fun _ => ?_)
        refine pv_iconst (pc := 78) (v := 3) dX12_item_78 (by decide) ?_
        refine pv_goto (pc := 79) (tgt := 92) dX12_item_79 (by decide) ?_
        refine pv_istore_3 (pc := 92) dX12_item_92 (by decide) rfl ?_
        refine pv_iconst (pc := 93) (v := 0) dX12_item_93 (by decide) ?_
        refine pv_istore_4 (pc := 94) dX12_item_94 (by decide) rfl ?_
        refine l_fg0 hT hR hW hd he hi1 h8 ?_
        rw [b_item, if_neg h8n, hw]; rfl
      · skip
        refine pv_istore_2 (pc := 47) dX12_item_47 (by decide) rfl ?_
        refine pv_iload_2 (pc := 48) dX12_item_48 ?_
        refine pv_iconst (pc := 49) (v := (-1)) dX12_item_49 (by decide) ?_
        refine pv_icmp_ne (pc := 50) (tgt := 55) dX12_item_50 (by decide) (fun _ => ?_) (fun q => absurd q (by decide))
        refine pv_iload_2 (pc := 55) dX12_item_55 ?_
        refine pv_if_ne (pc := 56) (tgt := 74) dX12_item_56 (by decide) (fun _ => ?_) (fun q => absurd q (by decide))
        refine pv_iload_2 (pc := 74) dX12_item_74 ?_
        refine pv_if_ne (pc := 75) (tgt := 82) dX12_item_75 (by decide) (fun _ => ?_) (fun q => absurd q (by decide))
        refine pv_iload_2 (pc := 82) dX12_item_82 ?_
        refine pv_iconst (pc := 83) (v := 1) dX12_item_83 (by decide) ?_
        refine pv_icmp_ne (pc := 84) (tgt := 91) dX12_item_84 (by decide) (fun q => absurd q (by decide)) (fun _ => ?_)
        refine pv_iconst (pc := 87) (v := 1) dX12_item_87 (by decide) ?_
        refine pv_goto (pc := 88) (tgt := 92) dX12_item_88 (by decide) ?_
        refine pv_istore_3 (pc := 92) dX12_item_92 (by decide) rfl ?_
        refine pv_iconst (pc := 93) (v := 0) dX12_item_93 (by decide) ?_
        refine pv_istore_4 (pc := 94) dX12_item_94 (by decide) rfl ?_
        refine l_cl0 hT hR hW hd he hi1 ?_
        rw [b_item, if_neg h8n, hw]; rfl
      · skip
        refine pv_istore_2 (pc := 47) dX12_item_47 (by decide) rfl ?_
        refine pv_iload_2 (pc := 48) dX12_item_48 ?_
        refine pv_iconst (pc := 49) (v := (-1)) dX12_item_49 (by decide) ?_
        refine pv_icmp_ne (pc := 50) (tgt := 55) dX12_item_50 (by decide) (fun _ => ?_) (fun q => absurd q (by decide))
        refine pv_iload_2 (pc := 55) dX12_item_55 ?_
        refine pv_if_ne (pc := 56) (tgt := 74) dX12_item_56 (by decide) (fun _ => ?_) (fun q => absurd q (by decide))
        refine pv_iload_2 (pc := 74) dX12_item_74 ?_
        refine pv_if_ne (pc := 75) (tgt := 82) dX12_item_75 (by decide) (fun _ => ?_) (fun q => absurd q (by decide))
        refine pv_iload_2 (pc := 82) dX12_item_82 ?_
        refine pv_iconst (pc := 83) (v := 1) dX12_item_83 (by decide) ?_
        refine pv_icmp_ne (pc := 84) (tgt := 91) dX12_item_84 (by decide) (fun _ => ?_) (fun q => absurd q (by decide))
        refine pv_iconst (pc := 91) (v := 2) dX12_item_91 (by decide) ?_
        refine pv_istore_3 (pc := 92) dX12_item_92 (by decide) rfl ?_
        refine pv_iconst (pc := 93) (v := 0) dX12_item_93 (by decide) ?_
        refine pv_istore_4 (pc := 94) dX12_item_94 (by decide) rfl ?_
        refine l_st0 hT hR hW hd he hi1 ?_
        rw [b_item, if_neg h8n, hw]; rfl
    · skip
      refine pv_istore_2 (pc := 47) dX12_item_47 (by decide) rfl ?_
      refine pv_iload_2 (pc := 48) dX12_item_48 ?_
      refine pv_iconst (pc := 49) (v := (-1)) dX12_item_49 (by decide) ?_
      refine pv_icmp_ne (pc := 50) (tgt := 55) dX12_item_50 (by decide) (fun q => absurd q (by decide)) (fun _ => ?_)
      refine pv_iconst (pc := 53) (v := 0) dX12_item_53 (by decide) ?_
      refine pv_iret (pc := 54) dX12_item_54 rfl rfl ?_
      exact q_bad (by rw [b_item, if_neg h8n, hw]) (bI.rf.u 61 27 _ (by omega)) bL.rf rfl
  refine pv_mt mgX12_item.2.2.2.2.2 [.ref 61, .retAddr 0, .retAddr 0, .retAddr 0, .retAddr 0, .retAddr 0] rfl (Nat.le_of_ble_eq_true rfl) ?_
  refine pv_iconst (pc := 0) (v := 0) dX12_item_0 (by decide) ?_
  refine pv_istore_1 (pc := 1) dX12_item_1 (by decide) rfl ?_
  refine pv_iload_1 (pc := 2) dX12_item_2 ?_
  refine pv_iconst (pc := 3) (v := 3) dX12_item_3 (by decide) ?_
  refine pv_icmp_ge (pc := 4) (tgt := 38) dX12_item_4 (by decide) (fun q => absurd q (by decide)) (fun _ => ?_)
  refine pv_aload_0 (pc := 7) dX12_item_7 ?_
  refine pv_iload_1 (pc := 8) dX12_item_8 ?_
  refine pv_callV1 (pc := 9) dX12_item_9 mgX12_isWordAt lv_X12_188_12 (by decide) (sx_61 hT) (by omega) (c_X12_isWordAt0 hT hR hx hp hr) rfl rfl (by decide) ?_
  refine pv_if_eq (pc := 12) (tgt := 32) dX12_item_12 (by decide) (fun h12 => ?_) (fun h12 => ?_)
  · refine pv_iinc_1 (pc := 32) (v := 1) dX12_item_32 (by decide) (by decide) rfl ?_
    refine pv_goto (pc := 35) (tgt := 2) dX12_item_35 (by decide) ?_
    refine pv_iload_1 (pc := 2) dX12_item_2 ?_
    refine pv_iconst (pc := 3) (v := 3) dX12_item_3 (by decide) ?_
    refine pv_icmp_ge (pc := 4) (tgt := 38) dX12_item_4 (by decide) (fun q => absurd q (by decide)) (fun _ => ?_)
    refine pv_aload_0 (pc := 7) dX12_item_7 ?_
    refine pv_iload_1 (pc := 8) dX12_item_8 ?_
    refine pv_callV1 (pc := 9) dX12_item_9 mgX12_isWordAt lv_X12_188_12 (by decide) (sx_61 hT) (by omega) (c_X12_isWordAt1 hT hR hx hp hr) rfl rfl (by decide) ?_
    refine pv_if_eq (pc := 12) (tgt := 32) dX12_item_12 (by decide) (fun h12_1 => ?_) (fun h12_1 => ?_)
    · refine pv_iinc_1 (pc := 32) (v := 2) dX12_item_32 (by decide) (by decide) rfl ?_
      refine pv_goto (pc := 35) (tgt := 2) dX12_item_35 (by decide) ?_
      refine pv_iload_1 (pc := 2) dX12_item_2 ?_
      refine pv_iconst (pc := 3) (v := 3) dX12_item_3 (by decide) ?_
      refine pv_icmp_ge (pc := 4) (tgt := 38) dX12_item_4 (by decide) (fun q => absurd q (by decide)) (fun _ => ?_)
      refine pv_aload_0 (pc := 7) dX12_item_7 ?_
      refine pv_iload_1 (pc := 8) dX12_item_8 ?_
      refine pv_callV1 (pc := 9) dX12_item_9 mgX12_isWordAt lv_X12_188_12 (by decide) (sx_61 hT) (by omega) (c_X12_isWordAt2 hT hR hx hp hr) rfl rfl (by decide) ?_
      refine pv_if_eq (pc := 12) (tgt := 32) dX12_item_12 (by decide) (fun h12_2 => ?_) (fun h12_2 => ?_)
      · refine pv_iinc_1 (pc := 32) (v := 3) dX12_item_32 (by decide) (by decide) rfl ?_
        refine pv_goto (pc := 35) (tgt := 2) dX12_item_35 (by decide) ?_
        refine pv_iload_1 (pc := 2) dX12_item_2 ?_
        refine pv_iconst (pc := 3) (v := 3) dX12_item_3 (by decide) ?_
        refine pv_icmp_ge (pc := 4) (tgt := 38) dX12_item_4 (by decide) (fun _ => ?_) (fun q => absurd q (by decide))
        refine rest (fun q => ?_) _ _ _ _ _
        first
          | (have f1 := h12; rw [q.1] at f1; exact absurd (show (1 : Int32) = 0 from f1) (by decide))
          | (have f1 := h20; rw [hM.1.1, q.2] at f1; exact absurd f1 (by decide))
      · refine pv_aload_0 (pc := 15) dX12_item_15 ?_
        refine pv_iload_1 (pc := 16) dX12_item_16 ?_
        refine pv_callV1 (pc := 17) dX12_item_17 mgX12_isFull lv_X12_191_12 (by decide) (sx_61 hT) (by omega) (c_X12_isFull2 hT) rfl rfl (by decide) ?_
        refine pv_if_eq (pc := 20) (tgt := 32) dX12_item_20 (by decide) (fun _ => ?_) (fun q => absurd q (by decide))
        refine pv_iinc_1 (pc := 32) (v := 3) dX12_item_32 (by decide) (by decide) rfl ?_
        refine pv_goto (pc := 35) (tgt := 2) dX12_item_35 (by decide) ?_
        refine pv_iload_1 (pc := 2) dX12_item_2 ?_
        refine pv_iconst (pc := 3) (v := 3) dX12_item_3 (by decide) ?_
        refine pv_icmp_ge (pc := 4) (tgt := 38) dX12_item_4 (by decide) (fun _ => ?_) (fun q => absurd q (by decide))
        refine rest (fun q => ?_) _ _ _ _ _
        first
          | (have f1 := h12; rw [q.1] at f1; exact absurd (show (1 : Int32) = 0 from f1) (by decide))
          | (have f1 := h20; rw [hM.1.1, q.2] at f1; exact absurd f1 (by decide))
    · refine pv_aload_0 (pc := 15) dX12_item_15 ?_
      refine pv_iload_1 (pc := 16) dX12_item_16 ?_
      refine pv_callV1 (pc := 17) dX12_item_17 mgX12_isFull lv_X12_191_12 (by decide) (sx_61 hT) (by omega) (c_X12_isFull1 hT) rfl rfl (by decide) ?_
      refine pv_if_eq (pc := 20) (tgt := 32) dX12_item_20 (by decide) (fun _ => ?_) (fun q => absurd q (by decide))
      refine pv_iinc_1 (pc := 32) (v := 2) dX12_item_32 (by decide) (by decide) rfl ?_
      refine pv_goto (pc := 35) (tgt := 2) dX12_item_35 (by decide) ?_
      refine pv_iload_1 (pc := 2) dX12_item_2 ?_
      refine pv_iconst (pc := 3) (v := 3) dX12_item_3 (by decide) ?_
      refine pv_icmp_ge (pc := 4) (tgt := 38) dX12_item_4 (by decide) (fun q => absurd q (by decide)) (fun _ => ?_)
      refine pv_aload_0 (pc := 7) dX12_item_7 ?_
      refine pv_iload_1 (pc := 8) dX12_item_8 ?_
      refine pv_callV1 (pc := 9) dX12_item_9 mgX12_isWordAt lv_X12_188_12 (by decide) (sx_61 hT) (by omega) (c_X12_isWordAt2 hT hR hx hp hr) rfl rfl (by decide) ?_
      refine pv_if_eq (pc := 12) (tgt := 32) dX12_item_12 (by decide) (fun h12_2 => ?_) (fun h12_2 => ?_)
      · refine pv_iinc_1 (pc := 32) (v := 3) dX12_item_32 (by decide) (by decide) rfl ?_
        refine pv_goto (pc := 35) (tgt := 2) dX12_item_35 (by decide) ?_
        refine pv_iload_1 (pc := 2) dX12_item_2 ?_
        refine pv_iconst (pc := 3) (v := 3) dX12_item_3 (by decide) ?_
        refine pv_icmp_ge (pc := 4) (tgt := 38) dX12_item_4 (by decide) (fun _ => ?_) (fun q => absurd q (by decide))
        refine rest (fun q => ?_) _ _ _ _ _
        first
          | (have f1 := h12; rw [q.1] at f1; exact absurd (show (1 : Int32) = 0 from f1) (by decide))
          | (have f1 := h20; rw [hM.1.1, q.2] at f1; exact absurd f1 (by decide))
      · refine pv_aload_0 (pc := 15) dX12_item_15 ?_
        refine pv_iload_1 (pc := 16) dX12_item_16 ?_
        refine pv_callV1 (pc := 17) dX12_item_17 mgX12_isFull lv_X12_191_12 (by decide) (sx_61 hT) (by omega) (c_X12_isFull2 hT) rfl rfl (by decide) ?_
        refine pv_if_eq (pc := 20) (tgt := 32) dX12_item_20 (by decide) (fun _ => ?_) (fun q => absurd q (by decide))
        refine pv_iinc_1 (pc := 32) (v := 3) dX12_item_32 (by decide) (by decide) rfl ?_
        refine pv_goto (pc := 35) (tgt := 2) dX12_item_35 (by decide) ?_
        refine pv_iload_1 (pc := 2) dX12_item_2 ?_
        refine pv_iconst (pc := 3) (v := 3) dX12_item_3 (by decide) ?_
        refine pv_icmp_ge (pc := 4) (tgt := 38) dX12_item_4 (by decide) (fun _ => ?_) (fun q => absurd q (by decide))
        refine rest (fun q => ?_) _ _ _ _ _
        first
          | (have f1 := h12; rw [q.1] at f1; exact absurd (show (1 : Int32) = 0 from f1) (by decide))
          | (have f1 := h20; rw [hM.1.1, q.2] at f1; exact absurd f1 (by decide))
  · refine pv_aload_0 (pc := 15) dX12_item_15 ?_
    refine pv_iload_1 (pc := 16) dX12_item_16 ?_
    refine pv_callV1 (pc := 17) dX12_item_17 mgX12_isFull lv_X12_191_12 (by decide) (sx_61 hT) (by omega) (c_X12_isFull0 hT) rfl rfl (by decide) ?_
    refine pv_if_eq (pc := 20) (tgt := 32) dX12_item_20 (by decide) (fun h20 => ?_) (fun h20 => ?_)
    · refine pv_iinc_1 (pc := 32) (v := 1) dX12_item_32 (by decide) (by decide) rfl ?_
      refine pv_goto (pc := 35) (tgt := 2) dX12_item_35 (by decide) ?_
      refine pv_iload_1 (pc := 2) dX12_item_2 ?_
      refine pv_iconst (pc := 3) (v := 3) dX12_item_3 (by decide) ?_
      refine pv_icmp_ge (pc := 4) (tgt := 38) dX12_item_4 (by decide) (fun q => absurd q (by decide)) (fun _ => ?_)
      refine pv_aload_0 (pc := 7) dX12_item_7 ?_
      refine pv_iload_1 (pc := 8) dX12_item_8 ?_
      refine pv_callV1 (pc := 9) dX12_item_9 mgX12_isWordAt lv_X12_188_12 (by decide) (sx_61 hT) (by omega) (c_X12_isWordAt1 hT hR hx hp hr) rfl rfl (by decide) ?_
      refine pv_if_eq (pc := 12) (tgt := 32) dX12_item_12 (by decide) (fun h12_1 => ?_) (fun h12_1 => ?_)
      · refine pv_iinc_1 (pc := 32) (v := 2) dX12_item_32 (by decide) (by decide) rfl ?_
        refine pv_goto (pc := 35) (tgt := 2) dX12_item_35 (by decide) ?_
        refine pv_iload_1 (pc := 2) dX12_item_2 ?_
        refine pv_iconst (pc := 3) (v := 3) dX12_item_3 (by decide) ?_
        refine pv_icmp_ge (pc := 4) (tgt := 38) dX12_item_4 (by decide) (fun q => absurd q (by decide)) (fun _ => ?_)
        refine pv_aload_0 (pc := 7) dX12_item_7 ?_
        refine pv_iload_1 (pc := 8) dX12_item_8 ?_
        refine pv_callV1 (pc := 9) dX12_item_9 mgX12_isWordAt lv_X12_188_12 (by decide) (sx_61 hT) (by omega) (c_X12_isWordAt2 hT hR hx hp hr) rfl rfl (by decide) ?_
        refine pv_if_eq (pc := 12) (tgt := 32) dX12_item_12 (by decide) (fun h12_2 => ?_) (fun h12_2 => ?_)
        · refine pv_iinc_1 (pc := 32) (v := 3) dX12_item_32 (by decide) (by decide) rfl ?_
          refine pv_goto (pc := 35) (tgt := 2) dX12_item_35 (by decide) ?_
          refine pv_iload_1 (pc := 2) dX12_item_2 ?_
          refine pv_iconst (pc := 3) (v := 3) dX12_item_3 (by decide) ?_
          refine pv_icmp_ge (pc := 4) (tgt := 38) dX12_item_4 (by decide) (fun _ => ?_) (fun q => absurd q (by decide))
          refine rest (fun q => ?_) _ _ _ _ _
          first
            | (have f1 := h12; rw [q.1] at f1; exact absurd (show (1 : Int32) = 0 from f1) (by decide))
            | (have f1 := h20; rw [hM.1.1, q.2] at f1; exact absurd f1 (by decide))
        · refine pv_aload_0 (pc := 15) dX12_item_15 ?_
          refine pv_iload_1 (pc := 16) dX12_item_16 ?_
          refine pv_callV1 (pc := 17) dX12_item_17 mgX12_isFull lv_X12_191_12 (by decide) (sx_61 hT) (by omega) (c_X12_isFull2 hT) rfl rfl (by decide) ?_
          refine pv_if_eq (pc := 20) (tgt := 32) dX12_item_20 (by decide) (fun _ => ?_) (fun q => absurd q (by decide))
          refine pv_iinc_1 (pc := 32) (v := 3) dX12_item_32 (by decide) (by decide) rfl ?_
          refine pv_goto (pc := 35) (tgt := 2) dX12_item_35 (by decide) ?_
          refine pv_iload_1 (pc := 2) dX12_item_2 ?_
          refine pv_iconst (pc := 3) (v := 3) dX12_item_3 (by decide) ?_
          refine pv_icmp_ge (pc := 4) (tgt := 38) dX12_item_4 (by decide) (fun _ => ?_) (fun q => absurd q (by decide))
          refine rest (fun q => ?_) _ _ _ _ _
          first
            | (have f1 := h12; rw [q.1] at f1; exact absurd (show (1 : Int32) = 0 from f1) (by decide))
            | (have f1 := h20; rw [hM.1.1, q.2] at f1; exact absurd f1 (by decide))
      · refine pv_aload_0 (pc := 15) dX12_item_15 ?_
        refine pv_iload_1 (pc := 16) dX12_item_16 ?_
        refine pv_callV1 (pc := 17) dX12_item_17 mgX12_isFull lv_X12_191_12 (by decide) (sx_61 hT) (by omega) (c_X12_isFull1 hT) rfl rfl (by decide) ?_
        refine pv_if_eq (pc := 20) (tgt := 32) dX12_item_20 (by decide) (fun _ => ?_) (fun q => absurd q (by decide))
        refine pv_iinc_1 (pc := 32) (v := 2) dX12_item_32 (by decide) (by decide) rfl ?_
        refine pv_goto (pc := 35) (tgt := 2) dX12_item_35 (by decide) ?_
        refine pv_iload_1 (pc := 2) dX12_item_2 ?_
        refine pv_iconst (pc := 3) (v := 3) dX12_item_3 (by decide) ?_
        refine pv_icmp_ge (pc := 4) (tgt := 38) dX12_item_4 (by decide) (fun q => absurd q (by decide)) (fun _ => ?_)
        refine pv_aload_0 (pc := 7) dX12_item_7 ?_
        refine pv_iload_1 (pc := 8) dX12_item_8 ?_
        refine pv_callV1 (pc := 9) dX12_item_9 mgX12_isWordAt lv_X12_188_12 (by decide) (sx_61 hT) (by omega) (c_X12_isWordAt2 hT hR hx hp hr) rfl rfl (by decide) ?_
        refine pv_if_eq (pc := 12) (tgt := 32) dX12_item_12 (by decide) (fun h12_2 => ?_) (fun h12_2 => ?_)
        · refine pv_iinc_1 (pc := 32) (v := 3) dX12_item_32 (by decide) (by decide) rfl ?_
          refine pv_goto (pc := 35) (tgt := 2) dX12_item_35 (by decide) ?_
          refine pv_iload_1 (pc := 2) dX12_item_2 ?_
          refine pv_iconst (pc := 3) (v := 3) dX12_item_3 (by decide) ?_
          refine pv_icmp_ge (pc := 4) (tgt := 38) dX12_item_4 (by decide) (fun _ => ?_) (fun q => absurd q (by decide))
          refine rest (fun q => ?_) _ _ _ _ _
          first
            | (have f1 := h12; rw [q.1] at f1; exact absurd (show (1 : Int32) = 0 from f1) (by decide))
            | (have f1 := h20; rw [hM.1.1, q.2] at f1; exact absurd f1 (by decide))
        · refine pv_aload_0 (pc := 15) dX12_item_15 ?_
          refine pv_iload_1 (pc := 16) dX12_item_16 ?_
          refine pv_callV1 (pc := 17) dX12_item_17 mgX12_isFull lv_X12_191_12 (by decide) (sx_61 hT) (by omega) (c_X12_isFull2 hT) rfl rfl (by decide) ?_
          refine pv_if_eq (pc := 20) (tgt := 32) dX12_item_20 (by decide) (fun _ => ?_) (fun q => absurd q (by decide))
          refine pv_iinc_1 (pc := 32) (v := 3) dX12_item_32 (by decide) (by decide) rfl ?_
          refine pv_goto (pc := 35) (tgt := 2) dX12_item_35 (by decide) ?_
          refine pv_iload_1 (pc := 2) dX12_item_2 ?_
          refine pv_iconst (pc := 3) (v := 3) dX12_item_3 (by decide) ?_
          refine pv_icmp_ge (pc := 4) (tgt := 38) dX12_item_4 (by decide) (fun _ => ?_) (fun q => absurd q (by decide))
          refine rest (fun q => ?_) _ _ _ _ _
          first
            | (have f1 := h12; rw [q.1] at f1; exact absurd (show (1 : Int32) = 0 from f1) (by decide))
            | (have f1 := h20; rw [hM.1.1, q.2] at f1; exact absurd f1 (by decide))
    · refine pv_aload_0 (pc := 23) dX12_item_23 ?_
      refine pv_aload_0 (pc := 24) dX12_item_24 ?_
      refine pv_getI (pc := 25) dX12_item_25 fg_X12_169_12 rfl (by decide) (sx_61 hT) ?_
      refine pv_callV1 (pc := 28) dX12_item_28 mgX12_wrong lv_X12_185_12 (by decide) (sx_61 hT) (by omega) (c_X12_wrong hT) rfl rfl (by decide) ?_
      refine pv_iret (pc := 31) dX12_item_31 rfl rfl ?_
      have f1 := (pv_b_n0 _).mp h12
      have f2 : J 0 0 = 8 := by have g := (pv_b_n0 _).mp h20; rw [hM.1.1] at g; exact of_decide_eq_true g
      exact q_bad (by rw [b_item, if_pos ⟨f1, f2⟩]) (bI.rf.u 61 27 _ (by omega)) bL.rf hp

