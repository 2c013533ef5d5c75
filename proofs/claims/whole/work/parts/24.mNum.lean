/-! figures added; numbers -/
theorem RM.adds {J : pv_I} {K : pv_L} {I : pv_I} {L : pv_L} (hW : WF J K) (h : RM J K I L) (h8 : (J 0 0).toInt < 8) (k a c : Int32) : RM (S_adds J k a c) K (pv_u (pv_u (pv_u (pv_u I 63 (I 61 0).toNatClampNeg k) 64 (I 61 0).toNatClampNeg a) 65 (I 61 0).toNatClampNeg c) 61 0 (I 61 0 + 1)) L := by
  obtain ⟨⟨e0, e1, e2, e3, e4, e5, e6, e7, e8⟩, g2, g3, g4, g5, g6, g7, g8⟩ := h
  have w0 := hW.1
  have hn := i_lit (J 0 0)
  have h1 : (J 0 0 + 1).toInt = (J 0 0).toInt + 1 := by
    rw [Jvm.Kit.i32_add (by rw [show (1 : Int32).toInt = 1 by decide]; omega) (by rw [show (1 : Int32).toInt = 1 by decide]; omega)]; rfl
  rw [e0]
  refine ⟨⟨rfl, e1, e2, e3, e4, e5, e6, e7, e8⟩, fun i hi => ?_, g3, g4, g5, g6, g7, fun q => ?_⟩
  · have hi2 : (i : Int) < (J 0 0 + 1).toInt := hi
    rw [h1] at hi2
    show (if 63 = 63 ∧ i = (J 0 0).toNatClampNeg then k else I 63 i) = (if 1 = 1 ∧ i = (J 0 0).toNatClampNeg then k else J 1 i) ∧ (if 64 = 64 ∧ i = (J 0 0).toNatClampNeg then a else I 64 i) = (if 2 = 2 ∧ i = (J 0 0).toNatClampNeg then a else J 2 i) ∧ (if 65 = 65 ∧ i = (J 0 0).toNatClampNeg then c else I 65 i) = (if 3 = 3 ∧ i = (J 0 0).toNatClampNeg then c else J 3 i)
    by_cases e : i = (J 0 0).toNatClampNeg
    · simp only [e, and_self, if_true]
    · simp only [e, and_false, if_false]
      exact g2 i (by omega)
  · have q1 := hW.2.2.2.2.2 q
    obtain ⟨i1, i2⟩ := g8 q
    refine ⟨fun i hi => ?_, i2⟩
    have hi2 : (i : Int) < (J 0 7).toInt := hi
    show I 77 i = (if 1 = 1 ∧ i = (J 0 0).toNatClampNeg then k else J 1 i) ∧ I 77 (8 + i) = (if 2 = 2 ∧ i = (J 0 0).toNatClampNeg then a else J 2 i) ∧ I 77 (16 + i) = (if 3 = 3 ∧ i = (J 0 0).toNatClampNeg then c else J 3 i)
    have e : ¬ i = (J 0 0).toNatClampNeg := by omega
    simp only [e, and_false, if_false]
    exact i1 i hi

set_option maxRecDepth 100000 in
set_option maxHeartbeats 4000000 in
theorem c_X12_adds {G : pv_G} {d : Nat} {J : pv_I} {K : pv_L} {k a c : Int32} {t : pv_T} {I : pv_I} {L : pv_L} {Rf : pv_R} (hT : sh_ok t) (hR : rf_ok Rf) (hW : WF J K) (hM : RM J K I L) (h8 : (J 0 0).toInt < 8) : pv_Mt G mX12_adds d 0 0 [.ref 61, .int k, .int a, .int c] t I L Rf (qM (.int (J 0 0), S_adds J k a c, K) t I L Rf) := by
  refine pv_mt mgX12_adds.2.2.2.2.2 [.ref 61, .int k, .int a, .int c] rfl (Nat.le_of_ble_eq_true rfl) ?_
  refine pv_aload_0 (pc := 0) dX12_adds_0 ?_
  refine pv_getR (pc := 1) dX12_adds_1 fg_X12_24_12 rfl (by decide) (sx_61 hT) (rx_61_8 hR) ?_
  refine pv_aload_0 (pc := 4) dX12_adds_4 ?_
  refine pv_getI (pc := 5) dX12_adds_5 fg_X12_108_12 rfl (by decide) (sx_61 hT) ?_
  refine pv_iload_1 (pc := 8) dX12_adds_8 ?_
  refine pv_iastorej (pc := 9) dX12_adds_9 (by decide) (sx_63 hT) rfl (by have w0 := hW.1; have e0 := hM.1.1; exact pv_in_of (n := 8) (by show 0 ≤ (I 61 0).toInt; rw [e0]; omega) (by show (I 61 0).toInt < 8; rw [e0]; omega)) ?_
  refine pv_aload_0 (pc := 10) dX12_adds_10 ?_
  refine pv_getR (pc := 11) dX12_adds_11 fg_X12_27_12 rfl (by decide) (sx_61 hT) (rx_61_9 hR) ?_
  refine pv_aload_0 (pc := 14) dX12_adds_14 ?_
  refine pv_getI (pc := 15) dX12_adds_15 fg_X12_108_12 rfl (by decide) (sx_61 hT) ?_
  refine pv_iload_2 (pc := 18) dX12_adds_18 ?_
  refine pv_iastorej (pc := 19) dX12_adds_19 (by decide) (sx_64 hT) rfl (by have w0 := hW.1; have e0 := hM.1.1; exact pv_in_of (n := 8) (by show 0 ≤ (I 61 0).toInt; rw [e0]; omega) (by show (I 61 0).toInt < 8; rw [e0]; omega)) ?_
  refine pv_aload_0 (pc := 20) dX12_adds_20 ?_
  refine pv_getR (pc := 21) dX12_adds_21 fg_X12_30_12 rfl (by decide) (sx_61 hT) (rx_61_10 hR) ?_
  refine pv_aload_0 (pc := 24) dX12_adds_24 ?_
  refine pv_getI (pc := 25) dX12_adds_25 fg_X12_108_12 rfl (by decide) (sx_61 hT) ?_
  refine pv_iload_3 (pc := 28) dX12_adds_28 ?_
  refine pv_iastorej (pc := 29) dX12_adds_29 (by decide) (sx_65 hT) rfl (by have w0 := hW.1; have e0 := hM.1.1; exact pv_in_of (n := 8) (by show 0 ≤ (I 61 0).toInt; rw [e0]; omega) (by show (I 61 0).toInt < 8; rw [e0]; omega)) ?_
  refine pv_aload_0 (pc := 30) dX12_adds_30 ?_
  refine pv_dup (pc := 31) dX12_adds_31 rfl ?_
  refine pv_getI (pc := 32) dX12_adds_32 fg_X12_108_12 rfl (by decide) (sx_61 hT) ?_
  refine pv_dup_x1 (pc := 35) dX12_adds_35 rfl rfl ?_
  refine pv_iconst (pc := 36) (v := 1) dX12_adds_36 (by decide) ?_
  refine pv_iadd (pc := 37) dX12_adds_37 ?_
  refine pv_putI (pc := 38) dX12_adds_38 fl_X12_108_12 (fun q => by cases q) ⟨rfl, rfl, rfl⟩ (by decide) (sx_61 hT) ?_
  refine pv_iret (pc := 41) dX12_adds_41 rfl rfl ?_
  have e0 := hM.1.1
  have q := RM.adds hW hM h8 k a c
  exact ⟨congrArg (fun z => some (Value.int z)) e0, rfl, rfl, q, (((kX.rf.uI 63 _ _ (by decide)).uI 64 _ _ (by decide)).uI 65 _ _ (by decide)).uI 61 _ _ (by decide)⟩

set_option maxRecDepth 100000 in
set_option maxHeartbeats 4000000 in
theorem c_X12_figure {G : pv_G} {d : Nat} {J : pv_I} {K : pv_L} {k a c : Int32} {t : pv_T} {I : pv_I} {L : pv_L} {Rf : pv_R} (hT : sh_ok t) (hR : rf_ok Rf) (hW : WF J K) (hM : RM J K I L) (hd : 6 ≤ d) : pv_Mt G mX12_figure d 0 0 [.ref 61, .int k, .int a, .int c] t I L Rf (qM (S_figure J K k a c) t I L Rf) := by
  refine pv_mt mgX12_figure.2.2.2.2.2 [.ref 61, .int k, .int a, .int c] rfl (Nat.le_of_ble_eq_true rfl) ?_
  obtain ⟨⟨m0, m1, m2, m3, m4, m5, m6, m7, m8⟩, mf, mst, mh, mr, mt, mc, mi⟩ := id hM
  have h8 : ¬ I 61 0 = 8 → (J 0 0).toInt < 8 := fun q => by
    have w0 := hW.1
    rw [m0, ← Int32.toInt_inj, show (8 : Int32).toInt = 8 by decide] at q
    omega
  refine pv_iload_1 (pc := 0) dX12_figure_0 ?_
  refine pv_if_lt (pc := 1) (tgt := 10) dX12_figure_1 (by decide) (fun h1 => ?_) (fun h1 => ?_)
  · refine pv_aload_0 (pc := 10) dX12_figure_10 ?_
    refine pv_iconst (pc := 11) (v := (-1)) dX12_figure_11 (by decide) ?_
    refine pv_callV1 (pc := 12) dX12_figure_12 mgX12_no lv_X12_115_12 (by decide) (sx_61 hT) (by omega) (c_X12_no (k := 1) hT hR (by decide) (by unfold vp_in; decide)) rfl rfl (by decide) ?_
    refine pv_iret (pc := 15) dX12_figure_15 rfl rfl ?_
    first
      | (refine qM.ref hM (by decide) ?_; unfold S_figure; (repeat (first | rw [if_pos (by ((try simp only [pv_b_0, pv_b_n0, pv_b_1, s_sh, Bool.and_eq_true, Bool.or_eq_true, Bool.and_eq_false_iff, Bool.or_eq_false_iff, decide_eq_true_eq, decide_eq_false_iff_not] at *); (try simp only [i_lt, i_le, ← Int32.toInt_inj, Int64.lt_iff_toInt_lt, Int64.le_iff_toInt_le, ← Int64.toInt_inj, (show (0 : Int32).toInt = 0 from by decide), (show (1 : Int32).toInt = 1 from by decide), (show (2 : Int32).toInt = 2 from by decide), (show (3 : Int32).toInt = 3 from by decide), (show (4 : Int32).toInt = 4 from by decide), (show (6 : Int32).toInt = 6 from by decide), (show (7 : Int32).toInt = 7 from by decide), (show (8 : Int32).toInt = 8 from by decide), (show (9 : Int32).toInt = 9 from by decide), (show (99 : Int32).toInt = 99 from by decide), (show (160 : Int32).toInt = 160 from by decide), (show (100 : Int32).toInt = 100 from by decide), (show ((-1) : Int32).toInt = (-1) from by decide), (show (5 : Int32).toInt = 5 from by decide)] at *); omega))] | rw [if_neg (by ((try simp only [pv_b_0, pv_b_n0, pv_b_1, s_sh, Bool.and_eq_true, Bool.or_eq_true, Bool.and_eq_false_iff, Bool.or_eq_false_iff, decide_eq_true_eq, decide_eq_false_iff_not] at *); (try simp only [i_lt, i_le, ← Int32.toInt_inj, Int64.lt_iff_toInt_lt, Int64.le_iff_toInt_le, ← Int64.toInt_inj, (show (0 : Int32).toInt = 0 from by decide), (show (1 : Int32).toInt = 1 from by decide), (show (2 : Int32).toInt = 2 from by decide), (show (3 : Int32).toInt = 3 from by decide), (show (4 : Int32).toInt = 4 from by decide), (show (6 : Int32).toInt = 6 from by decide), (show (7 : Int32).toInt = 7 from by decide), (show (8 : Int32).toInt = 8 from by decide), (show (9 : Int32).toInt = 9 from by decide), (show (99 : Int32).toInt = 99 from by decide), (show (160 : Int32).toInt = 160 from by decide), (show (100 : Int32).toInt = 100 from by decide), (show ((-1) : Int32).toInt = (-1) from by decide), (show (5 : Int32).toInt = 5 from by decide)] at *); omega))])); first | done | rfl)
  · refine pv_iload_1 (pc := 4) dX12_figure_4 ?_
    refine pv_bipush (pc := 5) (v := 6) dX12_figure_5 (by decide) ?_
    refine pv_icmp_le (pc := 7) (tgt := 16) dX12_figure_7 (by decide) (fun h7 => ?_) (fun h7 => ?_)
    · refine pv_iload_2 (pc := 16) dX12_figure_16 ?_
      refine pv_if_lt (pc := 17) (tgt := 37) dX12_figure_17 (by decide) (fun h17 => ?_) (fun h17 => ?_)
      · refine pv_aload_0 (pc := 37) dX12_figure_37 ?_
        refine pv_bipush (pc := 38) (v := (-6)) dX12_figure_38 (by decide) ?_
        refine pv_callV1 (pc := 40) dX12_figure_40 mgX12_no lv_X12_115_12 (by decide) (sx_61 hT) (by omega) (c_X12_no (k := 6) hT hR (by decide) (by unfold vp_in; decide)) rfl rfl (by decide) ?_
        refine pv_iret (pc := 43) dX12_figure_43 rfl rfl ?_
        first
          | (refine qM.ref hM (by decide) ?_; unfold S_figure; (repeat (first | rw [if_pos (by ((try simp only [pv_b_0, pv_b_n0, pv_b_1, s_sh, Bool.and_eq_true, Bool.or_eq_true, Bool.and_eq_false_iff, Bool.or_eq_false_iff, decide_eq_true_eq, decide_eq_false_iff_not] at *); (try simp only [i_lt, i_le, ← Int32.toInt_inj, Int64.lt_iff_toInt_lt, Int64.le_iff_toInt_le, ← Int64.toInt_inj, (show (0 : Int32).toInt = 0 from by decide), (show (1 : Int32).toInt = 1 from by decide), (show (2 : Int32).toInt = 2 from by decide), (show (3 : Int32).toInt = 3 from by decide), (show (4 : Int32).toInt = 4 from by decide), (show (6 : Int32).toInt = 6 from by decide), (show (7 : Int32).toInt = 7 from by decide), (show (8 : Int32).toInt = 8 from by decide), (show (9 : Int32).toInt = 9 from by decide), (show (99 : Int32).toInt = 99 from by decide), (show (160 : Int32).toInt = 160 from by decide), (show (100 : Int32).toInt = 100 from by decide), (show ((-1) : Int32).toInt = (-1) from by decide), (show (5 : Int32).toInt = 5 from by decide)] at *); omega))] | rw [if_neg (by ((try simp only [pv_b_0, pv_b_n0, pv_b_1, s_sh, Bool.and_eq_true, Bool.or_eq_true, Bool.and_eq_false_iff, Bool.or_eq_false_iff, decide_eq_true_eq, decide_eq_false_iff_not] at *); (try simp only [i_lt, i_le, ← Int32.toInt_inj, Int64.lt_iff_toInt_lt, Int64.le_iff_toInt_le, ← Int64.toInt_inj, (show (0 : Int32).toInt = 0 from by decide), (show (1 : Int32).toInt = 1 from by decide), (show (2 : Int32).toInt = 2 from by decide), (show (3 : Int32).toInt = 3 from by decide), (show (4 : Int32).toInt = 4 from by decide), (show (6 : Int32).toInt = 6 from by decide), (show (7 : Int32).toInt = 7 from by decide), (show (8 : Int32).toInt = 8 from by decide), (show (9 : Int32).toInt = 9 from by decide), (show (99 : Int32).toInt = 99 from by decide), (show (160 : Int32).toInt = 160 from by decide), (show (100 : Int32).toInt = 100 from by decide), (show ((-1) : Int32).toInt = (-1) from by decide), (show (5 : Int32).toInt = 5 from by decide)] at *); omega))])); first | done | rfl)
      · refine pv_iload_2 (pc := 20) dX12_figure_20 ?_
        refine pv_bipush (pc := 21) (v := 9) dX12_figure_21 (by decide) ?_
        refine pv_icmp_gt (pc := 23) (tgt := 37) dX12_figure_23 (by decide) (fun h23 => ?_) (fun h23 => ?_)
        · refine pv_aload_0 (pc := 37) dX12_figure_37 ?_
          refine pv_bipush (pc := 38) (v := (-6)) dX12_figure_38 (by decide) ?_
          refine pv_callV1 (pc := 40) dX12_figure_40 mgX12_no lv_X12_115_12 (by decide) (sx_61 hT) (by omega) (c_X12_no (k := 6) hT hR (by decide) (by unfold vp_in; decide)) rfl rfl (by decide) ?_
          refine pv_iret (pc := 43) dX12_figure_43 rfl rfl ?_
          first
            | (refine qM.ref hM (by decide) ?_; unfold S_figure; (repeat (first | rw [if_pos (by ((try simp only [pv_b_0, pv_b_n0, pv_b_1, s_sh, Bool.and_eq_true, Bool.or_eq_true, Bool.and_eq_false_iff, Bool.or_eq_false_iff, decide_eq_true_eq, decide_eq_false_iff_not] at *); (try simp only [i_lt, i_le, ← Int32.toInt_inj, Int64.lt_iff_toInt_lt, Int64.le_iff_toInt_le, ← Int64.toInt_inj, (show (0 : Int32).toInt = 0 from by decide), (show (1 : Int32).toInt = 1 from by decide), (show (2 : Int32).toInt = 2 from by decide), (show (3 : Int32).toInt = 3 from by decide), (show (4 : Int32).toInt = 4 from by decide), (show (6 : Int32).toInt = 6 from by decide), (show (7 : Int32).toInt = 7 from by decide), (show (8 : Int32).toInt = 8 from by decide), (show (9 : Int32).toInt = 9 from by decide), (show (99 : Int32).toInt = 99 from by decide), (show (160 : Int32).toInt = 160 from by decide), (show (100 : Int32).toInt = 100 from by decide), (show ((-1) : Int32).toInt = (-1) from by decide), (show (5 : Int32).toInt = 5 from by decide)] at *); omega))] | rw [if_neg (by ((try simp only [pv_b_0, pv_b_n0, pv_b_1, s_sh, Bool.and_eq_true, Bool.or_eq_true, Bool.and_eq_false_iff, Bool.or_eq_false_iff, decide_eq_true_eq, decide_eq_false_iff_not] at *); (try simp only [i_lt, i_le, ← Int32.toInt_inj, Int64.lt_iff_toInt_lt, Int64.le_iff_toInt_le, ← Int64.toInt_inj, (show (0 : Int32).toInt = 0 from by decide), (show (1 : Int32).toInt = 1 from by decide), (show (2 : Int32).toInt = 2 from by decide), (show (3 : Int32).toInt = 3 from by decide), (show (4 : Int32).toInt = 4 from by decide), (show (6 : Int32).toInt = 6 from by decide), (show (7 : Int32).toInt = 7 from by decide), (show (8 : Int32).toInt = 8 from by decide), (show (9 : Int32).toInt = 9 from by decide), (show (99 : Int32).toInt = 99 from by decide), (show (160 : Int32).toInt = 160 from by decide), (show (100 : Int32).toInt = 100 from by decide), (show ((-1) : Int32).toInt = (-1) from by decide), (show (5 : Int32).toInt = 5 from by decide)] at *); omega))])); first | done | rfl)
        · refine pv_iload_3 (pc := 26) dX12_figure_26 ?_
          refine pv_iconst (pc := 27) (v := 1) dX12_figure_27 (by decide) ?_
          refine pv_icmp_lt (pc := 28) (tgt := 37) dX12_figure_28 (by decide) (fun h28 => ?_) (fun h28 => ?_)
          · refine pv_aload_0 (pc := 37) dX12_figure_37 ?_
            refine pv_bipush (pc := 38) (v := (-6)) dX12_figure_38 (by decide) ?_
            refine pv_callV1 (pc := 40) dX12_figure_40 mgX12_no lv_X12_115_12 (by decide) (sx_61 hT) (by omega) (c_X12_no (k := 6) hT hR (by decide) (by unfold vp_in; decide)) rfl rfl (by decide) ?_
            refine pv_iret (pc := 43) dX12_figure_43 rfl rfl ?_
            first
              | (refine qM.ref hM (by decide) ?_; unfold S_figure; (repeat (first | rw [if_pos (by ((try simp only [pv_b_0, pv_b_n0, pv_b_1, s_sh, Bool.and_eq_true, Bool.or_eq_true, Bool.and_eq_false_iff, Bool.or_eq_false_iff, decide_eq_true_eq, decide_eq_false_iff_not] at *); (try simp only [i_lt, i_le, ← Int32.toInt_inj, Int64.lt_iff_toInt_lt, Int64.le_iff_toInt_le, ← Int64.toInt_inj, (show (0 : Int32).toInt = 0 from by decide), (show (1 : Int32).toInt = 1 from by decide), (show (2 : Int32).toInt = 2 from by decide), (show (3 : Int32).toInt = 3 from by decide), (show (4 : Int32).toInt = 4 from by decide), (show (6 : Int32).toInt = 6 from by decide), (show (7 : Int32).toInt = 7 from by decide), (show (8 : Int32).toInt = 8 from by decide), (show (9 : Int32).toInt = 9 from by decide), (show (99 : Int32).toInt = 99 from by decide), (show (160 : Int32).toInt = 160 from by decide), (show (100 : Int32).toInt = 100 from by decide), (show ((-1) : Int32).toInt = (-1) from by decide), (show (5 : Int32).toInt = 5 from by decide)] at *); omega))] | rw [if_neg (by ((try simp only [pv_b_0, pv_b_n0, pv_b_1, s_sh, Bool.and_eq_true, Bool.or_eq_true, Bool.and_eq_false_iff, Bool.or_eq_false_iff, decide_eq_true_eq, decide_eq_false_iff_not] at *); (try simp only [i_lt, i_le, ← Int32.toInt_inj, Int64.lt_iff_toInt_lt, Int64.le_iff_toInt_le, ← Int64.toInt_inj, (show (0 : Int32).toInt = 0 from by decide), (show (1 : Int32).toInt = 1 from by decide), (show (2 : Int32).toInt = 2 from by decide), (show (3 : Int32).toInt = 3 from by decide), (show (4 : Int32).toInt = 4 from by decide), (show (6 : Int32).toInt = 6 from by decide), (show (7 : Int32).toInt = 7 from by decide), (show (8 : Int32).toInt = 8 from by decide), (show (9 : Int32).toInt = 9 from by decide), (show (99 : Int32).toInt = 99 from by decide), (show (160 : Int32).toInt = 160 from by decide), (show (100 : Int32).toInt = 100 from by decide), (show ((-1) : Int32).toInt = (-1) from by decide), (show (5 : Int32).toInt = 5 from by decide)] at *); omega))])); first | done | rfl)
          · refine pv_iload_3 (pc := 31) dX12_figure_31 ?_
            refine pv_bipush (pc := 32) (v := 9) dX12_figure_32 (by decide) ?_
            refine pv_icmp_le (pc := 34) (tgt := 44) dX12_figure_34 (by decide) (fun h34 => ?_) (fun h34 => ?_)
            · refine pv_aload_0 (pc := 44) dX12_figure_44 ?_
              refine pv_getI (pc := 45) dX12_figure_45 fg_X12_108_12 rfl (by decide) (sx_61 hT) ?_
              refine pv_bipush (pc := 48) (v := 8) dX12_figure_48 (by decide) ?_
              refine pv_icmp_ne (pc := 50) (tgt := 62) dX12_figure_50 (by decide) (fun h50 => ?_) (fun h50 => ?_)
              · refine pv_aload_0 (pc := 62) dX12_figure_62 ?_
                refine pv_iload_1 (pc := 63) dX12_figure_63 ?_
                refine pv_iload_2 (pc := 64) dX12_figure_64 ?_
                refine pv_iload_3 (pc := 65) dX12_figure_65 ?_
                refine pv_callVq (pc := 66) dX12_figure_66 mgX12_adds lv_X12_131_12 (by decide) (sx_61 hT) (by omega) (c_X12_adds hT hR hW hM (h8 h50)) rfl rfl (by decide) (fun v t I L Rf hq => ?_)
                obtain ⟨rfl, hq2⟩ := hq
                refine pv_iret (pc := 69) dX12_figure_69 rfl rfl ?_
                have e : S_figure J K k a c = (.int (J 0 0), S_adds J k a c, K) := by
                  unfold S_figure; (repeat (first | rw [if_pos (by ((try simp only [pv_b_0, pv_b_n0, pv_b_1, s_sh, Bool.and_eq_true, Bool.or_eq_true, Bool.and_eq_false_iff, Bool.or_eq_false_iff, decide_eq_true_eq, decide_eq_false_iff_not] at *); (try simp only [i_lt, i_le, ← Int32.toInt_inj, Int64.lt_iff_toInt_lt, Int64.le_iff_toInt_le, ← Int64.toInt_inj, (show (0 : Int32).toInt = 0 from by decide), (show (1 : Int32).toInt = 1 from by decide), (show (2 : Int32).toInt = 2 from by decide), (show (3 : Int32).toInt = 3 from by decide), (show (4 : Int32).toInt = 4 from by decide), (show (6 : Int32).toInt = 6 from by decide), (show (7 : Int32).toInt = 7 from by decide), (show (8 : Int32).toInt = 8 from by decide), (show (9 : Int32).toInt = 9 from by decide), (show (99 : Int32).toInt = 99 from by decide), (show (160 : Int32).toInt = 160 from by decide), (show (100 : Int32).toInt = 100 from by decide), (show ((-1) : Int32).toInt = (-1) from by decide), (show (5 : Int32).toInt = 5 from by decide)] at *); omega))] | rw [if_neg (by ((try simp only [pv_b_0, pv_b_n0, pv_b_1, s_sh, Bool.and_eq_true, Bool.or_eq_true, Bool.and_eq_false_iff, Bool.or_eq_false_iff, decide_eq_true_eq, decide_eq_false_iff_not] at *); (try simp only [i_lt, i_le, ← Int32.toInt_inj, Int64.lt_iff_toInt_lt, Int64.le_iff_toInt_le, ← Int64.toInt_inj, (show (0 : Int32).toInt = 0 from by decide), (show (1 : Int32).toInt = 1 from by decide), (show (2 : Int32).toInt = 2 from by decide), (show (3 : Int32).toInt = 3 from by decide), (show (4 : Int32).toInt = 4 from by decide), (show (6 : Int32).toInt = 6 from by decide), (show (7 : Int32).toInt = 7 from by decide), (show (8 : Int32).toInt = 8 from by decide), (show (9 : Int32).toInt = 9 from by decide), (show (99 : Int32).toInt = 99 from by decide), (show (160 : Int32).toInt = 160 from by decide), (show (100 : Int32).toInt = 100 from by decide), (show ((-1) : Int32).toInt = (-1) from by decide), (show (5 : Int32).toInt = 5 from by decide)] at *); omega))]))
                  first | done | rfl
                rw [e]; exact ⟨rfl, hq2⟩
              · refine pv_aload_0 (pc := 53) dX12_figure_53 ?_
                refine pv_bipush (pc := 54) (v := (-7)) dX12_figure_54 (by decide) ?_
                refine pv_callV1 (pc := 56) dX12_figure_56 mgX12_no lv_X12_115_12 (by decide) (sx_61 hT) (by omega) (c_X12_no (k := 7) hT hR (by decide) (by unfold vp_in; decide)) rfl rfl (by decide) ?_
                refine pv_goto (pc := 59) (tgt := 69) dX12_figure_59 (by decide) ?_
                refine pv_iret (pc := 69) dX12_figure_69 rfl rfl ?_
                first
                  | (refine qM.ref hM (by decide) ?_; unfold S_figure; (repeat (first | rw [if_pos (by ((try simp only [pv_b_0, pv_b_n0, pv_b_1, s_sh, Bool.and_eq_true, Bool.or_eq_true, Bool.and_eq_false_iff, Bool.or_eq_false_iff, decide_eq_true_eq, decide_eq_false_iff_not] at *); (try simp only [i_lt, i_le, ← Int32.toInt_inj, Int64.lt_iff_toInt_lt, Int64.le_iff_toInt_le, ← Int64.toInt_inj, (show (0 : Int32).toInt = 0 from by decide), (show (1 : Int32).toInt = 1 from by decide), (show (2 : Int32).toInt = 2 from by decide), (show (3 : Int32).toInt = 3 from by decide), (show (4 : Int32).toInt = 4 from by decide), (show (6 : Int32).toInt = 6 from by decide), (show (7 : Int32).toInt = 7 from by decide), (show (8 : Int32).toInt = 8 from by decide), (show (9 : Int32).toInt = 9 from by decide), (show (99 : Int32).toInt = 99 from by decide), (show (160 : Int32).toInt = 160 from by decide), (show (100 : Int32).toInt = 100 from by decide), (show ((-1) : Int32).toInt = (-1) from by decide), (show (5 : Int32).toInt = 5 from by decide)] at *); omega))] | rw [if_neg (by ((try simp only [pv_b_0, pv_b_n0, pv_b_1, s_sh, Bool.and_eq_true, Bool.or_eq_true, Bool.and_eq_false_iff, Bool.or_eq_false_iff, decide_eq_true_eq, decide_eq_false_iff_not] at *); (try simp only [i_lt, i_le, ← Int32.toInt_inj, Int64.lt_iff_toInt_lt, Int64.le_iff_toInt_le, ← Int64.toInt_inj, (show (0 : Int32).toInt = 0 from by decide), (show (1 : Int32).toInt = 1 from by decide), (show (2 : Int32).toInt = 2 from by decide), (show (3 : Int32).toInt = 3 from by decide), (show (4 : Int32).toInt = 4 from by decide), (show (6 : Int32).toInt = 6 from by decide), (show (7 : Int32).toInt = 7 from by decide), (show (8 : Int32).toInt = 8 from by decide), (show (9 : Int32).toInt = 9 from by decide), (show (99 : Int32).toInt = 99 from by decide), (show (160 : Int32).toInt = 160 from by decide), (show (100 : Int32).toInt = 100 from by decide), (show ((-1) : Int32).toInt = (-1) from by decide), (show (5 : Int32).toInt = 5 from by decide)] at *); omega))])); first | done | rfl)
            · refine pv_aload_0 (pc := 37) dX12_figure_37 ?_
              refine pv_bipush (pc := 38) (v := (-6)) dX12_figure_38 (by decide) ?_
              refine pv_callV1 (pc := 40) dX12_figure_40 mgX12_no lv_X12_115_12 (by decide) (sx_61 hT) (by omega) (c_X12_no (k := 6) hT hR (by decide) (by unfold vp_in; decide)) rfl rfl (by decide) ?_
              refine pv_iret (pc := 43) dX12_figure_43 rfl rfl ?_
              first
                | (refine qM.ref hM (by decide) ?_; unfold S_figure; (repeat (first | rw [if_pos (by ((try simp only [pv_b_0, pv_b_n0, pv_b_1, s_sh, Bool.and_eq_true, Bool.or_eq_true, Bool.and_eq_false_iff, Bool.or_eq_false_iff, decide_eq_true_eq, decide_eq_false_iff_not] at *); (try simp only [i_lt, i_le, ← Int32.toInt_inj, Int64.lt_iff_toInt_lt, Int64.le_iff_toInt_le, ← Int64.toInt_inj, (show (0 : Int32).toInt = 0 from by decide), (show (1 : Int32).toInt = 1 from by decide), (show (2 : Int32).toInt = 2 from by decide), (show (3 : Int32).toInt = 3 from by decide), (show (4 : Int32).toInt = 4 from by decide), (show (6 : Int32).toInt = 6 from by decide), (show (7 : Int32).toInt = 7 from by decide), (show (8 : Int32).toInt = 8 from by decide), (show (9 : Int32).toInt = 9 from by decide), (show (99 : Int32).toInt = 99 from by decide), (show (160 : Int32).toInt = 160 from by decide), (show (100 : Int32).toInt = 100 from by decide), (show ((-1) : Int32).toInt = (-1) from by decide), (show (5 : Int32).toInt = 5 from by decide)] at *); omega))] | rw [if_neg (by ((try simp only [pv_b_0, pv_b_n0, pv_b_1, s_sh, Bool.and_eq_true, Bool.or_eq_true, Bool.and_eq_false_iff, Bool.or_eq_false_iff, decide_eq_true_eq, decide_eq_false_iff_not] at *); (try simp only [i_lt, i_le, ← Int32.toInt_inj, Int64.lt_iff_toInt_lt, Int64.le_iff_toInt_le, ← Int64.toInt_inj, (show (0 : Int32).toInt = 0 from by decide), (show (1 : Int32).toInt = 1 from by decide), (show (2 : Int32).toInt = 2 from by decide), (show (3 : Int32).toInt = 3 from by decide), (show (4 : Int32).toInt = 4 from by decide), (show (6 : Int32).toInt = 6 from by decide), (show (7 : Int32).toInt = 7 from by decide), (show (8 : Int32).toInt = 8 from by decide), (show (9 : Int32).toInt = 9 from by decide), (show (99 : Int32).toInt = 99 from by decide), (show (160 : Int32).toInt = 160 from by decide), (show (100 : Int32).toInt = 100 from by decide), (show ((-1) : Int32).toInt = (-1) from by decide), (show (5 : Int32).toInt = 5 from by decide)] at *); omega))])); first | done | rfl)
    · refine pv_aload_0 (pc := 10) dX12_figure_10 ?_
      refine pv_iconst (pc := 11) (v := (-1)) dX12_figure_11 (by decide) ?_
      refine pv_callV1 (pc := 12) dX12_figure_12 mgX12_no lv_X12_115_12 (by decide) (sx_61 hT) (by omega) (c_X12_no (k := 1) hT hR (by decide) (by unfold vp_in; decide)) rfl rfl (by decide) ?_
      refine pv_iret (pc := 15) dX12_figure_15 rfl rfl ?_
      first
        | (refine qM.ref hM (by decide) ?_; unfold S_figure; (repeat (first | rw [if_pos (by ((try simp only [pv_b_0, pv_b_n0, pv_b_1, s_sh, Bool.and_eq_true, Bool.or_eq_true, Bool.and_eq_false_iff, Bool.or_eq_false_iff, decide_eq_true_eq, decide_eq_false_iff_not] at *); (try simp only [i_lt, i_le, ← Int32.toInt_inj, Int64.lt_iff_toInt_lt, Int64.le_iff_toInt_le, ← Int64.toInt_inj, (show (0 : Int32).toInt = 0 from by decide), (show (1 : Int32).toInt = 1 from by decide), (show (2 : Int32).toInt = 2 from by decide), (show (3 : Int32).toInt = 3 from by decide), (show (4 : Int32).toInt = 4 from by decide), (show (6 : Int32).toInt = 6 from by decide), (show (7 : Int32).toInt = 7 from by decide), (show (8 : Int32).toInt = 8 from by decide), (show (9 : Int32).toInt = 9 from by decide), (show (99 : Int32).toInt = 99 from by decide), (show (160 : Int32).toInt = 160 from by decide), (show (100 : Int32).toInt = 100 from by decide), (show ((-1) : Int32).toInt = (-1) from by decide), (show (5 : Int32).toInt = 5 from by decide)] at *); omega))] | rw [if_neg (by ((try simp only [pv_b_0, pv_b_n0, pv_b_1, s_sh, Bool.and_eq_true, Bool.or_eq_true, Bool.and_eq_false_iff, Bool.or_eq_false_iff, decide_eq_true_eq, decide_eq_false_iff_not] at *); (try simp only [i_lt, i_le, ← Int32.toInt_inj, Int64.lt_iff_toInt_lt, Int64.le_iff_toInt_le, ← Int64.toInt_inj, (show (0 : Int32).toInt = 0 from by decide), (show (1 : Int32).toInt = 1 from by decide), (show (2 : Int32).toInt = 2 from by decide), (show (3 : Int32).toInt = 3 from by decide), (show (4 : Int32).toInt = 4 from by decide), (show (6 : Int32).toInt = 6 from by decide), (show (7 : Int32).toInt = 7 from by decide), (show (8 : Int32).toInt = 8 from by decide), (show (9 : Int32).toInt = 9 from by decide), (show (99 : Int32).toInt = 99 from by decide), (show (160 : Int32).toInt = 160 from by decide), (show (100 : Int32).toInt = 100 from by decide), (show ((-1) : Int32).toInt = (-1) from by decide), (show (5 : Int32).toInt = 5 from by decide)] at *); omega))])); first | done | rfl)

def s_gcd (a b : Int64) : Int64 := Int64.ofInt (Int.gcd a.toInt b.toInt : Nat)
theorem l64_0 : (0 : Int64).toInt = 0 := by decide
theorem l64_mod {x y : Int64} (hx : 0 ≤ x.toInt) (hy : 0 < y.toInt) : (x % y).toInt = x.toInt % y.toInt := by
  rw [Int64.toInt_mod, Int.tmod_eq_emod_of_nonneg hx]
theorem s_gcd_to {a b : Int64} (h : b.toInt ≠ 0 → -9223372036854775808 < b.toInt) (h1 : a.toInt ≠ 0 → -9223372036854775808 < a.toInt) : (s_gcd a b).toInt = (Int.gcd a.toInt b.toInt : Nat) := by
  have hb := Int64.toInt_lt b
  have ha := Int64.toInt_lt a
  unfold s_gcd
  have : Int.gcd a.toInt b.toInt ≤ 9223372036854775807 := by
    by_cases hb0 : b.toInt = 0
    · rw [hb0, Int.gcd_zero_right]
      by_cases ha0 : a.toInt = 0
      · rw [ha0]; decide
      · have := h1 ha0; omega
    · have := Int.gcd_le_natAbs_right (a := a.toInt) (b := b.toInt) hb0
      have := h hb0
      omega
  rw [Int64.toInt_ofInt_of_le (by omega) (by omega)]
def s_num (p q : Int64) : Bool := decide (0 ≤ q.toInt) && decide (q.toInt ≤ 1000000000000) && decide (p.toInt ≤ 1000000000000) && decide (-1000000000000 ≤ p.toInt) && (if q.toInt = 0 then decide (p.toInt = 1) else decide (Int.gcd p.toInt q.toInt = 1))
theorem s_num_iff (p q : Int64) : s_num p q = true ↔ s_isN p q := by
  unfold s_num s_isN
  simp only [Bool.and_eq_true, decide_eq_true_eq]
  split
  · simp only [decide_eq_true_eq]; constructor <;> (intro h; omega)
  · simp only [decide_eq_true_eq]; constructor <;> (intro h; omega)
def S_start (J : pv_I) (K : pv_L) (p q : Int64) : SR := if s_num p q = true then (.int 1, J, pv_u (pv_u K 0 0 p) 0 1 q) else S_ref J K 6 (.int (-6))

theorem i_gcd {x y : Int} (hx : 0 ≤ x) (hy : 0 < y) : Int.gcd y (x % y) = Int.gcd x y := by
  obtain ⟨m, rfl⟩ := Int.eq_ofNat_of_zero_le hx
  obtain ⟨n, rfl⟩ := Int.eq_ofNat_of_zero_le (Int.le_of_lt hy)
  rw [← Int.natCast_emod, Int.gcd_natCast_natCast, Int.gcd_natCast_natCast, Nat.gcd_comm m n, Nat.gcd_rec n m, Nat.gcd_comm]
set_option maxRecDepth 100000 in
set_option maxHeartbeats 4000000 in
theorem l_div {G : pv_G} {d : Nat} {Q : pv_Q} {t : pv_T} {I : pv_I} {L : pv_L} {Rf : pv_R} {a b : Int64} (g : Nat) (hq : Q (some (.long (Int64.ofInt (g : Nat)))) t I L Rf) : ∀ (n : Nat) (x y : Int64) (l9 : Value), 0 ≤ x.toInt → 0 ≤ y.toInt → y.toInt ≤ n → Int.gcd x.toInt y.toInt = g →
    pv_V G mX12_divides d 0 0 Q 0 0 28 [.ref 61, .long a, .retAddr 0, .long b, .retAddr 0, .long x, .retAddr 0, .long y, .retAddr 0, l9, .retAddr 0] [] t I L Rf := by
  intro n
  induction n with
  | zero =>
    intro x y l9 hx hy hn hg
    have h0 : y = 0 := by rw [← Int64.toInt_inj, l64_0]; omega
    refine pv_lload_7 (pc := 28) dX12_divides_28 ?_
    refine pv_lconst (pc := 30) (v := 0) dX12_divides_30 (by decide) ?_
    refine pv_lcmp_eq (pc := 31) (tgt := 53) dX12_divides_31 dX12_divides_32 (by decide) (fun h31 => ?_) (fun h31 => absurd h31 (not_not_intro h0))
    refine pv_lload_5 (pc := 53) dX12_divides_53 ?_
    refine pv_lret (pc := 55) dX12_divides_55 rfl ?_
    rw [← hg, h0, l64_0, Int.gcd_zero_right, show (x.toInt.natAbs : Int) = x.toInt by omega, Int64.ofInt_toInt] at hq; exact hq
  | succ n ih =>
    intro x y l9 hx hy hn hg
    by_cases h0 : y = 0
    · skip
      refine pv_lload_7 (pc := 28) dX12_divides_28 ?_
      refine pv_lconst (pc := 30) (v := 0) dX12_divides_30 (by decide) ?_
      refine pv_lcmp_eq (pc := 31) (tgt := 53) dX12_divides_31 dX12_divides_32 (by decide) (fun h31 => ?_) (fun h31 => absurd h31 (not_not_intro h0))
      refine pv_lload_5 (pc := 53) dX12_divides_53 ?_
      refine pv_lret (pc := 55) dX12_divides_55 rfl ?_
      rw [← hg, h0, l64_0, Int.gcd_zero_right, show (x.toInt.natAbs : Int) = x.toInt by omega, Int64.ofInt_toInt] at hq; exact hq
    · have hy0 : y.toInt ≠ 0 := fun q => h0 (by rw [← Int64.toInt_inj, l64_0]; exact q)
      have hm := l64_mod hx (show 0 < y.toInt by omega)
      refine pv_lload_7 (pc := 28) dX12_divides_28 ?_
      refine pv_lconst (pc := 30) (v := 0) dX12_divides_30 (by decide) ?_
      refine pv_lcmp_eq (pc := 31) (tgt := 53) dX12_divides_31 dX12_divides_32 (by decide) (fun h31 => absurd h31 h0) (fun h31 => ?_)
      refine pv_lload_5 (pc := 35) dX12_divides_35 ?_
      refine pv_lload_7 (pc := 37) dX12_divides_37 ?_
      refine pv_lrem (pc := 39) dX12_divides_39 h31 ?_
      refine pv_lstore_9 (pc := 40) dX12_divides_40 (by decide) rfl ?_
      refine pv_lload_7 (pc := 42) dX12_divides_42 ?_
      refine pv_lstore_5 (pc := 44) dX12_divides_44 (by decide) rfl ?_
      refine pv_lload_9 (pc := 46) dX12_divides_46 ?_
      refine pv_lstore_7 (pc := 48) dX12_divides_48 (by decide) rfl ?_
      refine pv_goto (pc := 50) (tgt := 28) dX12_divides_50 (by decide) ?_
      exact ih y (x % y) _ hy (by rw [hm]; exact Int.emod_nonneg _ (by omega)) (by rw [hm]; have := Int.emod_lt_of_pos x.toInt (show 0 < y.toInt by omega); omega) (by rw [hm, ← hg]; exact i_gcd hx (by omega))

theorem l64_neg {x : Int64} (h : -9223372036854775808 < x.toInt) : (-x).toInt = -x.toInt := by
  have h1 := Int64.toInt_lt x
  rw [Int64.toInt_neg, Int.bmod_def]
  split <;> omega
theorem l64_ab {x : Int64} (h : x < 0) (h1 : -9223372036854775808 < x.toInt) : 0 ≤ (-x).toInt ∧ (-x).toInt.natAbs = x.toInt.natAbs := by
  rw [Int64.lt_iff_toInt_lt, l64_0] at h
  rw [l64_neg h1]
  omega
theorem l64_ab2 {x : Int64} (h : ¬ x < 0) : 0 ≤ x.toInt := by
  rw [Int64.lt_iff_toInt_lt, l64_0] at h
  omega
set_option maxRecDepth 100000 in
set_option maxHeartbeats 4000000 in
theorem c_X12_divides {G : pv_G} {d : Nat} {a b : Int64} {t : pv_T} {I : pv_I} {L : pv_L} {Rf : pv_R} (ha : -9223372036854775808 < a.toInt) (hb : -9223372036854775808 < b.toInt) : pv_Mt G mX12_divides d 0 0 [.ref 61, .long a, .long b] t I L Rf (pv_is (some (.long (s_gcd a b))) t I L Rf) := by
  refine pv_mt mgX12_divides.2.2.2.2.2 [.ref 61, .long a, .retAddr 0, .long b, .retAddr 0, .retAddr 0, .retAddr 0, .retAddr 0, .retAddr 0, .retAddr 0, .retAddr 0] rfl (Nat.le_of_ble_eq_true rfl) ?_
  refine pv_lload_1 (pc := 0) dX12_divides_0 ?_
  refine pv_lconst (pc := 1) (v := 0) dX12_divides_1 (by decide) ?_
  refine pv_lcmp_ge (pc := 2) (tgt := 11) dX12_divides_2 dX12_divides_3 (by decide) (fun h2 => ?_) (fun h2 => ?_)
  · refine pv_lload_1 (pc := 11) dX12_divides_11 ?_
    refine pv_lstore_5 (pc := 12) dX12_divides_12 (by decide) rfl ?_
    refine pv_lload_3 (pc := 14) dX12_divides_14 ?_
    refine pv_lconst (pc := 15) (v := 0) dX12_divides_15 (by decide) ?_
    refine pv_lcmp_ge (pc := 16) (tgt := 25) dX12_divides_16 dX12_divides_17 (by decide) (fun h16 => ?_) (fun h16 => ?_)
    · refine pv_lload_3 (pc := 25) dX12_divides_25 ?_
      refine pv_lstore_7 (pc := 26) dX12_divides_26 (by decide) rfl ?_
      refine l_div (Int.gcd a.toInt b.toInt) ⟨rfl, rfl, rfl, rfl, rfl⟩ 9223372036854775807 _ _ _ ?_ ?_ (Int.le_of_lt_add_one (Int64.toInt_lt _)) ?_
      · first | exact (l64_ab h2 ha).1 | exact l64_ab2 h2
      · first | exact (l64_ab h16 hb).1 | exact l64_ab2 h16
      · first
          | rfl
          | (simp only [Int.gcd, (l64_ab h2 ha).2, (l64_ab h16 hb).2]; done)
          | (simp only [Int.gcd, (l64_ab h2 ha).2]; done)
          | (simp only [Int.gcd, (l64_ab h16 hb).2]; done)
    · refine pv_lload_3 (pc := 20) dX12_divides_20 ?_
      refine pv_lneg (pc := 21) dX12_divides_21 ?_
      refine pv_goto (pc := 22) (tgt := 26) dX12_divides_22 (by decide) ?_
      refine pv_lstore_7 (pc := 26) dX12_divides_26 (by decide) rfl ?_
      refine l_div (Int.gcd a.toInt b.toInt) ⟨rfl, rfl, rfl, rfl, rfl⟩ 9223372036854775807 _ _ _ ?_ ?_ (Int.le_of_lt_add_one (Int64.toInt_lt _)) ?_
      · first | exact (l64_ab h2 ha).1 | exact l64_ab2 h2
      · first | exact (l64_ab h16 hb).1 | exact l64_ab2 h16
      · first
          | rfl
          | (simp only [Int.gcd, (l64_ab h2 ha).2, (l64_ab h16 hb).2]; done)
          | (simp only [Int.gcd, (l64_ab h2 ha).2]; done)
          | (simp only [Int.gcd, (l64_ab h16 hb).2]; done)
  · refine pv_lload_1 (pc := 6) dX12_divides_6 ?_
    refine pv_lneg (pc := 7) dX12_divides_7 ?_
    refine pv_goto (pc := 8) (tgt := 12) dX12_divides_8 (by decide) ?_
    refine pv_lstore_5 (pc := 12) dX12_divides_12 (by decide) rfl ?_
    refine pv_lload_3 (pc := 14) dX12_divides_14 ?_
    refine pv_lconst (pc := 15) (v := 0) dX12_divides_15 (by decide) ?_
    refine pv_lcmp_ge (pc := 16) (tgt := 25) dX12_divides_16 dX12_divides_17 (by decide) (fun h16 => ?_) (fun h16 => ?_)
    · refine pv_lload_3 (pc := 25) dX12_divides_25 ?_
      refine pv_lstore_7 (pc := 26) dX12_divides_26 (by decide) rfl ?_
      refine l_div (Int.gcd a.toInt b.toInt) ⟨rfl, rfl, rfl, rfl, rfl⟩ 9223372036854775807 _ _ _ ?_ ?_ (Int.le_of_lt_add_one (Int64.toInt_lt _)) ?_
      · first | exact (l64_ab h2 ha).1 | exact l64_ab2 h2
      · first | exact (l64_ab h16 hb).1 | exact l64_ab2 h16
      · first
          | rfl
          | (simp only [Int.gcd, (l64_ab h2 ha).2, (l64_ab h16 hb).2]; done)
          | (simp only [Int.gcd, (l64_ab h2 ha).2]; done)
          | (simp only [Int.gcd, (l64_ab h16 hb).2]; done)
    · refine pv_lload_3 (pc := 20) dX12_divides_20 ?_
      refine pv_lneg (pc := 21) dX12_divides_21 ?_
      refine pv_goto (pc := 22) (tgt := 26) dX12_divides_22 (by decide) ?_
      refine pv_lstore_7 (pc := 26) dX12_divides_26 (by decide) rfl ?_
      refine l_div (Int.gcd a.toInt b.toInt) ⟨rfl, rfl, rfl, rfl, rfl⟩ 9223372036854775807 _ _ _ ?_ ?_ (Int.le_of_lt_add_one (Int64.toInt_lt _)) ?_
      · first | exact (l64_ab h2 ha).1 | exact l64_ab2 h2
      · first | exact (l64_ab h16 hb).1 | exact l64_ab2 h16
      · first
          | rfl
          | (simp only [Int.gcd, (l64_ab h2 ha).2, (l64_ab h16 hb).2]; done)
          | (simp only [Int.gcd, (l64_ab h2 ha).2]; done)
          | (simp only [Int.gcd, (l64_ab h16 hb).2]; done)

theorem s_num_t {p q : Int64} (h1 : ¬ q < 0) (h2 : ¬ 1000000000000 < q) (h3 : ¬ 1000000000000 < p) (h4 : ¬ p < -1000000000000) (h5 : if q = 0 then p = 1 else s_gcd p q = 1) : s_num p q = true := by
  rw [s_num_iff]
  unfold s_isN
  simp only [Int64.lt_iff_toInt_lt, (show (0 : Int64).toInt = 0 from by decide), (show (1 : Int64).toInt = 1 from by decide), (show (1000000000000 : Int64).toInt = 1000000000000 from by decide), (show ((-1000000000000) : Int64).toInt = (-1000000000000) from by decide)] at h1 h2 h3 h4
  refine ⟨by omega, by omega, by omega, by omega, ?_⟩
  by_cases e : q = 0
  · rw [if_pos e] at h5
    rw [e, if_pos l64_0, h5]; decide
  · rw [if_neg e] at h5
    rw [if_neg (fun w => e (by rw [← Int64.toInt_inj, l64_0]; exact w))]
    have := s_gcd_to (a := p) (b := q) (by omega) (by omega)
    rw [h5, show (1 : Int64).toInt = 1 by decide] at this
    omega
theorem s_num_f {p q : Int64} (h : q < 0 ∨ 1000000000000 < q ∨ 1000000000000 < p ∨ p < -1000000000000 ∨ ¬ (if q = 0 then p = 1 else s_gcd p q = 1)) : s_num p q = false := by
  rw [← Bool.not_eq_true, s_num_iff]
  unfold s_isN
  rintro ⟨g1, g2, g3, g4, g5⟩
  simp only [Int64.lt_iff_toInt_lt, (show (0 : Int64).toInt = 0 from by decide), (show (1 : Int64).toInt = 1 from by decide), (show (1000000000000 : Int64).toInt = 1000000000000 from by decide), (show ((-1000000000000) : Int64).toInt = (-1000000000000) from by decide)] at h
  rcases h with h | h | h | h | h
  · omega
  · omega
  · omega
  · omega
  · refine h ?_
    by_cases e : q = 0
    · rw [if_pos e]
      rw [e, if_pos l64_0] at g5
      rw [← Int64.toInt_inj, g5]; decide
    · rw [if_neg e]
      rw [if_neg (fun w => e (by rw [← Int64.toInt_inj, l64_0]; exact w))] at g5
      rw [← Int64.toInt_inj, s_gcd_to (by omega) (by omega), g5]; decide
theorem s_ok1 {p : Int64} (h : ¬ p < -1000000000000) : -9223372036854775808 < p.toInt := by
  simp only [Int64.lt_iff_toInt_lt, (show (0 : Int64).toInt = 0 from by decide), (show (1 : Int64).toInt = 1 from by decide), (show (1000000000000 : Int64).toInt = 1000000000000 from by decide), (show ((-1000000000000) : Int64).toInt = (-1000000000000) from by decide)] at h
  omega
theorem s_ok2 {p : Int64} (h : ¬ p < 0) : -9223372036854775808 < p.toInt := by
  simp only [Int64.lt_iff_toInt_lt, (show (0 : Int64).toInt = 0 from by decide), (show (1 : Int64).toInt = 1 from by decide), (show (1000000000000 : Int64).toInt = 1000000000000 from by decide), (show ((-1000000000000) : Int64).toInt = (-1000000000000) from by decide)] at h
  omega
set_option maxRecDepth 100000 in
set_option maxHeartbeats 4000000 in
theorem c_X12_isNumber {G : pv_G} {d : Nat} {p q : Int64} {t : pv_T} {I : pv_I} {L : pv_L} {Rf : pv_R} (hT : sh_ok t) (hd : 1 ≤ d) : pv_Mt G mX12_isNumber d 0 0 [.ref 61, .long p, .long q] t I L Rf (pv_is (some (.int (pv_b (s_num p q)))) t I L Rf) := by
  refine pv_mt mgX12_isNumber.2.2.2.2.2 [.ref 61, .long p, .retAddr 0, .long q, .retAddr 0] rfl (Nat.le_of_ble_eq_true rfl) ?_
  refine pv_lload_3 (pc := 0) dX12_isNumber_0 ?_
  refine pv_lconst (pc := 1) (v := 0) dX12_isNumber_1 (by decide) ?_
  refine pv_lcmp_lt (pc := 2) (tgt := 30) dX12_isNumber_2 dX12_isNumber_3 (by decide) (fun h2 => ?_) (fun h2 => ?_)
  · refine pv_iconst (pc := 30) (v := 0) dX12_isNumber_30 (by decide) ?_
    refine pv_iret (pc := 31) dX12_isNumber_31 rfl rfl ?_
    first
      | (refine ⟨congrArg (fun z => some (Value.int (pv_b z))) (Eq.symm (s_num_f (Or.inl h2))), rfl, rfl, rfl, rfl⟩)
      | (refine ⟨congrArg (fun z => some (Value.int (pv_b z))) (Eq.symm (s_num_f (Or.inr (Or.inl h10)))), rfl, rfl, rfl, rfl⟩)
      | (refine ⟨congrArg (fun z => some (Value.int (pv_b z))) (Eq.symm (s_num_f (Or.inr (Or.inr (Or.inl h18))))), rfl, rfl, rfl, rfl⟩)
      | (refine ⟨congrArg (fun z => some (Value.int (pv_b z))) (Eq.symm (s_num_f (Or.inr (Or.inr (Or.inr (Or.inl h26)))))), rfl, rfl, rfl, rfl⟩)
  · refine pv_lload_3 (pc := 6) dX12_isNumber_6 ?_
    refine pv_ldc2 (pc := 7) dX12_isNumber_7 k_X12_135 ?_
    refine pv_lcmp_gt (pc := 10) (tgt := 30) dX12_isNumber_10 dX12_isNumber_11 (by decide) (fun h10 => ?_) (fun h10 => ?_)
    · refine pv_iconst (pc := 30) (v := 0) dX12_isNumber_30 (by decide) ?_
      refine pv_iret (pc := 31) dX12_isNumber_31 rfl rfl ?_
      first
        | (refine ⟨congrArg (fun z => some (Value.int (pv_b z))) (Eq.symm (s_num_f (Or.inl h2))), rfl, rfl, rfl, rfl⟩)
        | (refine ⟨congrArg (fun z => some (Value.int (pv_b z))) (Eq.symm (s_num_f (Or.inr (Or.inl h10)))), rfl, rfl, rfl, rfl⟩)
        | (refine ⟨congrArg (fun z => some (Value.int (pv_b z))) (Eq.symm (s_num_f (Or.inr (Or.inr (Or.inl h18))))), rfl, rfl, rfl, rfl⟩)
        | (refine ⟨congrArg (fun z => some (Value.int (pv_b z))) (Eq.symm (s_num_f (Or.inr (Or.inr (Or.inr (Or.inl h26)))))), rfl, rfl, rfl, rfl⟩)
    · refine pv_lload_1 (pc := 14) dX12_isNumber_14 ?_
      refine pv_ldc2 (pc := 15) dX12_isNumber_15 k_X12_135 ?_
      refine pv_lcmp_gt (pc := 18) (tgt := 30) dX12_isNumber_18 dX12_isNumber_19 (by decide) (fun h18 => ?_) (fun h18 => ?_)
      · refine pv_iconst (pc := 30) (v := 0) dX12_isNumber_30 (by decide) ?_
        refine pv_iret (pc := 31) dX12_isNumber_31 rfl rfl ?_
        first
          | (refine ⟨congrArg (fun z => some (Value.int (pv_b z))) (Eq.symm (s_num_f (Or.inl h2))), rfl, rfl, rfl, rfl⟩)
          | (refine ⟨congrArg (fun z => some (Value.int (pv_b z))) (Eq.symm (s_num_f (Or.inr (Or.inl h10)))), rfl, rfl, rfl, rfl⟩)
          | (refine ⟨congrArg (fun z => some (Value.int (pv_b z))) (Eq.symm (s_num_f (Or.inr (Or.inr (Or.inl h18))))), rfl, rfl, rfl, rfl⟩)
          | (refine ⟨congrArg (fun z => some (Value.int (pv_b z))) (Eq.symm (s_num_f (Or.inr (Or.inr (Or.inr (Or.inl h26)))))), rfl, rfl, rfl, rfl⟩)
      · refine pv_lload_1 (pc := 22) dX12_isNumber_22 ?_
        refine pv_ldc2 (pc := 23) dX12_isNumber_23 k_X12_137 ?_
        refine pv_lcmp_ge (pc := 26) (tgt := 32) dX12_isNumber_26 dX12_isNumber_27 (by decide) (fun h26 => ?_) (fun h26 => ?_)
        · refine pv_lload_3 (pc := 32) dX12_isNumber_32 ?_
          refine pv_lconst (pc := 33) (v := 0) dX12_isNumber_33 (by decide) ?_
          refine pv_lcmp_ne (pc := 34) (tgt := 52) dX12_isNumber_34 dX12_isNumber_35 (by decide) (fun h34 => ?_) (fun h34 => ?_)
          · refine pv_aload_0 (pc := 52) dX12_isNumber_52 ?_
            refine pv_lload_1 (pc := 53) dX12_isNumber_53 ?_
            refine pv_lload_3 (pc := 54) dX12_isNumber_54 ?_
            refine pv_callV1 (pc := 55) dX12_isNumber_55 mgX12_divides lv_X12_139_12 (by decide) (sx_61 hT) (by omega) (c_X12_divides (s_ok1 h26) (s_ok2 h2)) rfl rfl (by decide) ?_
            refine pv_lconst (pc := 58) (v := 1) dX12_isNumber_58 (by decide) ?_
            refine pv_lcmp_ne (pc := 59) (tgt := 67) dX12_isNumber_59 dX12_isNumber_60 (by decide) (fun h59 => ?_) (fun h59 => ?_)
            · refine pv_iconst (pc := 67) (v := 0) dX12_isNumber_67 (by decide) ?_
              refine pv_iret (pc := 68) dX12_isNumber_68 rfl rfl ?_
              first
                | (refine ⟨congrArg (fun z => some (Value.int (pv_b z))) (Eq.symm (s_num_t h2 h10 h18 h26 (by rw [if_pos h34]; exact h40))), rfl, rfl, rfl, rfl⟩)
                | (refine ⟨congrArg (fun z => some (Value.int (pv_b z))) (Eq.symm (s_num_t h2 h10 h18 h26 (by rw [if_neg h34]; exact h59))), rfl, rfl, rfl, rfl⟩)
                | (refine ⟨congrArg (fun z => some (Value.int (pv_b z))) (Eq.symm (s_num_f (Or.inr (Or.inr (Or.inr (Or.inr (by rw [if_pos h34]; exact h40))))))), rfl, rfl, rfl, rfl⟩)
                | (refine ⟨congrArg (fun z => some (Value.int (pv_b z))) (Eq.symm (s_num_f (Or.inr (Or.inr (Or.inr (Or.inr (by rw [if_neg h34]; exact h59))))))), rfl, rfl, rfl, rfl⟩)
            · refine pv_iconst (pc := 63) (v := 1) dX12_isNumber_63 (by decide) ?_
              refine pv_goto (pc := 64) (tgt := 68) dX12_isNumber_64 (by decide) ?_
              refine pv_iret (pc := 68) dX12_isNumber_68 rfl rfl ?_
              first
                | (refine ⟨congrArg (fun z => some (Value.int (pv_b z))) (Eq.symm (s_num_t h2 h10 h18 h26 (by rw [if_pos h34]; exact h40))), rfl, rfl, rfl, rfl⟩)
                | (refine ⟨congrArg (fun z => some (Value.int (pv_b z))) (Eq.symm (s_num_t h2 h10 h18 h26 (by rw [if_neg h34]; exact h59))), rfl, rfl, rfl, rfl⟩)
                | (refine ⟨congrArg (fun z => some (Value.int (pv_b z))) (Eq.symm (s_num_f (Or.inr (Or.inr (Or.inr (Or.inr (by rw [if_pos h34]; exact h40))))))), rfl, rfl, rfl, rfl⟩)
                | (refine ⟨congrArg (fun z => some (Value.int (pv_b z))) (Eq.symm (s_num_f (Or.inr (Or.inr (Or.inr (Or.inr (by rw [if_neg h34]; exact h59))))))), rfl, rfl, rfl, rfl⟩)
          · refine pv_lload_1 (pc := 38) dX12_isNumber_38 ?_
            refine pv_lconst (pc := 39) (v := 1) dX12_isNumber_39 (by decide) ?_
            refine pv_lcmp_ne (pc := 40) (tgt := 48) dX12_isNumber_40 dX12_isNumber_41 (by decide) (fun h40 => ?_) (fun h40 => ?_)
            · refine pv_iconst (pc := 48) (v := 0) dX12_isNumber_48 (by decide) ?_
              refine pv_goto (pc := 49) (tgt := 68) dX12_isNumber_49 (by decide) ?_
              refine pv_iret (pc := 68) dX12_isNumber_68 rfl rfl ?_
              first
                | (refine ⟨congrArg (fun z => some (Value.int (pv_b z))) (Eq.symm (s_num_t h2 h10 h18 h26 (by rw [if_pos h34]; exact h40))), rfl, rfl, rfl, rfl⟩)
                | (refine ⟨congrArg (fun z => some (Value.int (pv_b z))) (Eq.symm (s_num_t h2 h10 h18 h26 (by rw [if_neg h34]; exact h59))), rfl, rfl, rfl, rfl⟩)
                | (refine ⟨congrArg (fun z => some (Value.int (pv_b z))) (Eq.symm (s_num_f (Or.inr (Or.inr (Or.inr (Or.inr (by rw [if_pos h34]; exact h40))))))), rfl, rfl, rfl, rfl⟩)
                | (refine ⟨congrArg (fun z => some (Value.int (pv_b z))) (Eq.symm (s_num_f (Or.inr (Or.inr (Or.inr (Or.inr (by rw [if_neg h34]; exact h59))))))), rfl, rfl, rfl, rfl⟩)
            · refine pv_iconst (pc := 44) (v := 1) dX12_isNumber_44 (by decide) ?_
              refine pv_goto (pc := 45) (tgt := 68) dX12_isNumber_45 (by decide) ?_
              refine pv_iret (pc := 68) dX12_isNumber_68 rfl rfl ?_
              first
                | (refine ⟨congrArg (fun z => some (Value.int (pv_b z))) (Eq.symm (s_num_t h2 h10 h18 h26 (by rw [if_pos h34]; exact h40))), rfl, rfl, rfl, rfl⟩)
                | (refine ⟨congrArg (fun z => some (Value.int (pv_b z))) (Eq.symm (s_num_t h2 h10 h18 h26 (by rw [if_neg h34]; exact h59))), rfl, rfl, rfl, rfl⟩)
                | (refine ⟨congrArg (fun z => some (Value.int (pv_b z))) (Eq.symm (s_num_f (Or.inr (Or.inr (Or.inr (Or.inr (by rw [if_pos h34]; exact h40))))))), rfl, rfl, rfl, rfl⟩)
                | (refine ⟨congrArg (fun z => some (Value.int (pv_b z))) (Eq.symm (s_num_f (Or.inr (Or.inr (Or.inr (Or.inr (by rw [if_neg h34]; exact h59))))))), rfl, rfl, rfl, rfl⟩)
        · refine pv_iconst (pc := 30) (v := 0) dX12_isNumber_30 (by decide) ?_
          refine pv_iret (pc := 31) dX12_isNumber_31 rfl rfl ?_
          first
            | (refine ⟨congrArg (fun z => some (Value.int (pv_b z))) (Eq.symm (s_num_f (Or.inl h2))), rfl, rfl, rfl, rfl⟩)
            | (refine ⟨congrArg (fun z => some (Value.int (pv_b z))) (Eq.symm (s_num_f (Or.inr (Or.inl h10)))), rfl, rfl, rfl, rfl⟩)
            | (refine ⟨congrArg (fun z => some (Value.int (pv_b z))) (Eq.symm (s_num_f (Or.inr (Or.inr (Or.inl h18))))), rfl, rfl, rfl, rfl⟩)
            | (refine ⟨congrArg (fun z => some (Value.int (pv_b z))) (Eq.symm (s_num_f (Or.inr (Or.inr (Or.inr (Or.inl h26)))))), rfl, rfl, rfl, rfl⟩)

set_option maxRecDepth 100000 in
set_option maxHeartbeats 4000000 in
theorem c_X12_start {G : pv_G} {d : Nat} {J : pv_I} {K : pv_L} {p q : Int64} {t : pv_T} {I : pv_I} {L : pv_L} {Rf : pv_R} (hT : sh_ok t) (hR : rf_ok Rf) (hW : WF J K) (hM : RM J K I L) (hd : 6 ≤ d) : pv_Mt G mX12_start d 0 0 [.ref 61, .long p, .long q] t I L Rf (qM (S_start J K p q) t I L Rf) := by
  refine pv_mt mgX12_start.2.2.2.2.2 [.ref 61, .long p, .retAddr 0, .long q, .retAddr 0] rfl (Nat.le_of_ble_eq_true rfl) ?_
  obtain ⟨⟨m0, m1, m2, m3, m4, m5, m6, m7, m8⟩, mf, mst, mh, mr, mt, mc, mi⟩ := id hM
  refine pv_aload_0 (pc := 0) dX12_start_0 ?_
  refine pv_lload_1 (pc := 1) dX12_start_1 ?_
  refine pv_lload_3 (pc := 2) dX12_start_2 ?_
  refine pv_callV1 (pc := 3) dX12_start_3 mgX12_isNumber lv_X12_143_12 (by decide) (sx_61 hT) (by omega) (c_X12_isNumber hT (by omega)) rfl rfl (by decide) ?_
  refine pv_if_ne (pc := 6) (tgt := 16) dX12_start_6 (by decide) (fun h6 => ?_) (fun h6 => ?_)
  · refine pv_aload_0 (pc := 16) dX12_start_16 ?_
    refine pv_lload_1 (pc := 17) dX12_start_17 ?_
    refine pv_putL (pc := 18) dX12_start_18 fl_X12_147_12 (fun q => by cases q) (by decide) (sx_61 hT) ?_
    refine pv_aload_0 (pc := 21) dX12_start_21 ?_
    refine pv_lload_3 (pc := 22) dX12_start_22 ?_
    refine pv_putL (pc := 23) dX12_start_23 fl_X12_16_12 (fun q => by cases q) (by decide) (sx_61 hT) ?_
    refine pv_iconst (pc := 26) (v := 1) dX12_start_26 (by decide) ?_
    refine pv_iret (pc := 27) dX12_start_27 rfl rfl ?_
    first
      | (refine qM.ref hM (by decide) ?_; unfold S_start; rw [if_neg (by rw [(pv_b_0 _).mp h6]; decide)])
      | (have e : S_start J K p q = (.int 1, J, pv_u (pv_u K 0 0 p) 0 1 q) := by unfold S_start; rw [if_pos ((pv_b_n0 _).mp h6)]
         rw [e]; exact ⟨rfl, rfl, rfl, hM.PQ p q, (kX.rf.uL 61 _ _ (by decide)).uL 61 _ _ (by decide)⟩)
  · refine pv_aload_0 (pc := 9) dX12_start_9 ?_
    refine pv_bipush (pc := 10) (v := (-6)) dX12_start_10 (by decide) ?_
    refine pv_callV1 (pc := 12) dX12_start_12 mgX12_no lv_X12_115_12 (by decide) (sx_61 hT) (by omega) (c_X12_no (k := 6) hT hR (by decide) (by unfold vp_in; decide)) rfl rfl (by decide) ?_
    refine pv_iret (pc := 15) dX12_start_15 rfl rfl ?_
    first
      | (refine qM.ref hM (by decide) ?_; unfold S_start; rw [if_neg (by rw [(pv_b_0 _).mp h6]; decide)])
      | (have e : S_start J K p q = (.int 1, J, pv_u (pv_u K 0 0 p) 0 1 q) := by unfold S_start; rw [if_pos ((pv_b_n0 _).mp h6)]
         rw [e]; exact ⟨rfl, rfl, rfl, hM.PQ p q, (kX.rf.uL 61 _ _ (by decide)).uL 61 _ _ (by decide)⟩)

