/-! act -/
def w_body (J : pv_I) (b : Int32) : pv_I := pv_u (pv_u J 11 (J 0 5).toNatClampNeg (if J 0 5 < 20 then b else J 11 (J 0 5).toNatClampNeg)) 0 5 (J 0 5 + 1)
theorem RM.bod {J : pv_I} {K : pv_L} {I : pv_I} {L : pv_L} (h : RM J K I L) {b : Int32} (h0 : 0 ≤ (J 0 5).toInt ∧ (J 0 5).toInt < 100) {I1 : pv_I} (hI : I1 = pv_u (if J 0 5 < 20 then pv_u I 89 (J 0 5).toNatClampNeg b else I) 61 59 (J 0 5 + 1)) : RM (w_body J b) K I1 L := by
  obtain ⟨⟨e0, e1, e2, e3, e4, e5, e6, e7, e8⟩, g2, g3, g4, g5, g6, g7, g8⟩ := h
  have hn := i_lit (J 0 5)
  have h1 : (J 0 5 + 1).toInt = (J 0 5).toInt + 1 := by
    rw [Jvm.Kit.i32_add (by rw [show (1 : Int32).toInt = 1 by decide]; omega) (by rw [show (1 : Int32).toInt = 1 by decide]; omega)]; rfl
  subst hI
  split
  · rename_i hl
    refine ⟨⟨e0, e1, e2, e3, e4, rfl, e6, e7, e8⟩, g2, g3, g4, g5, fun i hi hi2 => ?_, g7, g8⟩
    have hi3 : (i : Int) < (J 0 5 + 1).toInt := hi2
    show (if 89 = 89 ∧ i = (J 0 5).toNatClampNeg then b else I 89 i) = (if 11 = 11 ∧ i = (J 0 5).toNatClampNeg then (if J 0 5 < 20 then b else J 11 (J 0 5).toNatClampNeg) else J 11 i)
    by_cases e : i = (J 0 5).toNatClampNeg
    · simp only [e, and_self, if_true, hl]
    · simp only [e, and_false, if_false]
      exact g6 i hi (by omega)
  · rename_i hl
    refine ⟨⟨e0, e1, e2, e3, e4, rfl, e6, e7, e8⟩, g2, g3, g4, g5, fun i hi hi2 => ?_, g7, g8⟩
    have hi3 : (i : Int) < (J 0 5 + 1).toInt := hi2
    rw [i_lt, show (20 : Int32).toInt = 20 by decide] at hl
    show I 89 i = (if 11 = 11 ∧ i = (J 0 5).toNatClampNeg then _ else J 11 i)
    rw [if_neg (by omega)]
    exact g6 i hi (by omega)
def qB (J : pv_I) (K : pv_L) (v : Option Value) (t : pv_T) (I : pv_I) (L : pv_L) (Rf : pv_R) : pv_Q := fun v1 t1 I1 L1 R1 => v1 = v ∧ t1 = t ∧ L1 = L ∧ R1 = Rf ∧ RM J K I1 L ∧ kX I L I1 L
def w_calV (J : pv_I) (f : Nat) (y x : Int32) : Int32 := if s_isC (J 1 f) = true then x + y + J 2 f else if J 1 f = 5 then (x + y) * 2 else x + y
def w_calB (J : pv_I) (k : Int32) : pv_I := w_body (if s_isC k = true then w_body (if k = 5 then w_body J 60 else J) 20 else if k = 5 then w_body J 60 else J) 10
theorem body_n {J : pv_I} {b : Int32} {n : Nat} (h : 0 ≤ (J 0 5).toInt ∧ (J 0 5).toInt ≤ n) (hn : n < 90) : 0 ≤ (w_body J b 0 5).toInt ∧ (w_body J b 0 5).toInt ≤ (n + 1 : Nat) := by
  show 0 ≤ (J 0 5 + 1).toInt ∧ (J 0 5 + 1).toInt ≤ (n + 1 : Nat)
  have h1 : (J 0 5 + 1).toInt = (J 0 5).toInt + 1 := by
    rw [Jvm.Kit.i32_add (by rw [show (1 : Int32).toInt = 1 by decide]; omega) (by rw [show (1 : Int32).toInt = 1 by decide]; omega)]; rfl
  omega
theorem s_C5k {k : Int32} (h : k = 5) : ¬ s_isC k = true := by rw [h]; decide

set_option maxRecDepth 100000 in
set_option maxHeartbeats 4000000 in
theorem c_X12_body {G : pv_G} {d : Nat} {J : pv_I} {K : pv_L} {b : Int32} {t : pv_T} {I : pv_I} {L : pv_L} {Rf : pv_R} (hT : sh_ok t) (hR : rf_ok Rf) (hM : RM J K I L) (hr : 0 ≤ (J 0 5).toInt ∧ (J 0 5).toInt < 100) : pv_Mt G mX12_body d 0 0 [.ref 61, .int b] t I L Rf (qB (w_body J b) K none t I L Rf) := by
  refine pv_mt mgX12_body.2.2.2.2.2 [.ref 61, .int b] rfl (Nat.le_of_ble_eq_true rfl) ?_
  refine pv_aload_0 (pc := 0) dX12_body_0 ?_
  refine pv_getI (pc := 1) dX12_body_1 fg_X12_393_12 rfl (by decide) (sx_61 hT) ?_
  refine pv_bipush (pc := 4) (v := 20) dX12_body_4 (by decide) ?_
  refine pv_icmp_ge (pc := 6) (tgt := 19) dX12_body_6 (by decide) (fun h6 => ?_) (fun h6 => ?_)
  · refine pv_aload_0 (pc := 19) dX12_body_19 ?_
    refine pv_dup (pc := 20) dX12_body_20 rfl ?_
    refine pv_getI (pc := 21) dX12_body_21 fg_X12_393_12 rfl (by decide) (sx_61 hT) ?_
    refine pv_iconst (pc := 24) (v := 1) dX12_body_24 (by decide) ?_
    refine pv_iadd (pc := 25) dX12_body_25 ?_
    refine pv_putI (pc := 26) dX12_body_26 fl_X12_393_12 (fun q => by cases q) ⟨rfl, rfl, rfl⟩ (by decide) (sx_61 hT) ?_
    refine pv_vret (pc := 29) dX12_body_29 rfl ?_
    first
      | (refine ⟨rfl, rfl, rfl, rfl, hM.bod hr (by rw [← hM.1.2.2.2.2.2.1, if_pos h6]; rfl), (kX.rf.uI 89 _ _ (by decide)).uI 61 _ _ (by decide)⟩)
      | (refine ⟨rfl, rfl, rfl, rfl, hM.bod hr (by rw [← hM.1.2.2.2.2.2.1, if_neg h6]), (kX.rf.uI 61 _ _ (by decide))⟩)
  · refine pv_aload_0 (pc := 9) dX12_body_9 ?_
    refine pv_getR (pc := 10) dX12_body_10 fg_X12_103_12 rfl (by decide) (sx_61 hT) (rx_61_58 hR) ?_
    refine pv_aload_0 (pc := 13) dX12_body_13 ?_
    refine pv_getI (pc := 14) dX12_body_14 fg_X12_393_12 rfl (by decide) (sx_61 hT) ?_
    refine pv_iload_1 (pc := 17) dX12_body_17 ?_
    refine pv_iastorej (pc := 18) dX12_body_18 (by decide) (sx_89 hT) rfl (by have e := hM.1.2.2.2.2.2.1; rw [e] at h6 ⊢; rw [i_lt, show (20 : Int32).toInt = 20 by decide] at h6; exact pv_in_of hr.1 h6) ?_
    refine pv_aload_0 (pc := 19) dX12_body_19 ?_
    refine pv_dup (pc := 20) dX12_body_20 rfl ?_
    refine pv_getI (pc := 21) dX12_body_21 fg_X12_393_12 rfl (by decide) (sx_61 hT) ?_
    refine pv_iconst (pc := 24) (v := 1) dX12_body_24 (by decide) ?_
    refine pv_iadd (pc := 25) dX12_body_25 ?_
    refine pv_putI (pc := 26) dX12_body_26 fl_X12_393_12 (fun q => by cases q) ⟨rfl, rfl, rfl⟩ (by decide) (sx_61 hT) ?_
    refine pv_vret (pc := 29) dX12_body_29 rfl ?_
    first
      | (refine ⟨rfl, rfl, rfl, rfl, hM.bod hr (by rw [← hM.1.2.2.2.2.2.1, if_pos h6]; rfl), (kX.rf.uI 89 _ _ (by decide)).uI 61 _ _ (by decide)⟩)
      | (refine ⟨rfl, rfl, rfl, rfl, hM.bod hr (by rw [← hM.1.2.2.2.2.2.1, if_neg h6]), (kX.rf.uI 61 _ _ (by decide))⟩)

set_option maxRecDepth 100000 in
set_option maxHeartbeats 4000000 in
theorem c_X12_calling {G : pv_G} {d : Nat} {J : pv_I} {K : pv_L} {f x : Int32} {n : Nat} {t : pv_T} {I : pv_I} {L : pv_L} {Rf : pv_R} (hT : sh_ok t) (hR : rf_ok Rf) (hW : WF J K) (hM : RM J K I L) (hF : w_isF J f) (hr : 0 ≤ (J 0 5).toInt ∧ (J 0 5).toInt ≤ n) (hn9 : n < 80) (hd : 1 ≤ d) : pv_Mt G mX12_calling d 0 0 [.ref 61, .int f, .int x] t I L Rf (qB (w_calB J (J 1 f.toNatClampNeg)) K (some (.int (w_calV J f.toNatClampNeg f x))) t I L Rf) := by
  refine pv_mt mgX12_calling.2.2.2.2.2 [.ref 61, .int f, .int x, .retAddr 0, .retAddr 0] rfl (Nat.le_of_ble_eq_true rfl) ?_
  have hX : kX I L I L := kX.rf
  obtain ⟨h8, hn⟩ := hF.nat hW
  refine pv_aload_0 (pc := 0) dX12_calling_0 ?_
  refine pv_getR (pc := 1) dX12_calling_1 fg_X12_24_12 rfl (by decide) (sx_61 hT) (rx_61_8 hR) ?_
  refine pv_iload_1 (pc := 4) dX12_calling_4 ?_
  refine pv_ialoadj (pc := 5) dX12_calling_5 (sx_63 hT) rfl h8 ?_
  refine pv_topv (y := J 1 f.toNatClampNeg) (hM.2.1 _ hn).1 ?_
  refine pv_istore_3 (pc := 6) dX12_calling_6 (by decide) rfl ?_
  refine pv_iload_3 (pc := 7) dX12_calling_7 ?_
  refine pv_iconst (pc := 8) (v := 5) dX12_calling_8 (by decide) ?_
  refine pv_icmp_ne (pc := 9) (tgt := 18) dX12_calling_9 (by decide) (fun h9 => ?_) (fun h9 => ?_)
  · refine pv_aload_0 (pc := 18) dX12_calling_18 ?_
    refine pv_iload_3 (pc := 19) dX12_calling_19 ?_
    refine pv_callV1 (pc := 20) dX12_calling_20 mgX12_isChange lv_X12_122_12 (by decide) (sx_61 hT) (by omega) (c_X12_isChange ) rfl rfl (by decide) ?_
    refine pv_if_eq (pc := 23) (tgt := 32) dX12_calling_23 (by decide) (fun h23 => ?_) (fun h23 => ?_)
    · refine pv_aload_0 (pc := 32) dX12_calling_32 ?_
      refine pv_bipush (pc := 33) (v := 10) dX12_calling_33 (by decide) ?_
      refine pv_callVq (pc := 35) dX12_calling_35 mgX12_body lv_X12_396_12 (by decide) (sx_61 hT) (by omega) (c_X12_body hT hR hM ⟨hr.1, by have := hr.2; omega⟩) rfl rfl (by decide) (fun v t I L Rf hq => ?_)
      obtain ⟨rfl, rfl, rfl, rfl, hM, hX2⟩ := hq
      have hX := hX.tr hX2
      have hr := body_n (b := 10) hr (by omega)
      refine pv_iload_2 (pc := 38) dX12_calling_38 ?_
      refine pv_iload_1 (pc := 39) dX12_calling_39 ?_
      refine pv_iadd (pc := 40) dX12_calling_40 ?_
      refine pv_istore_4 (pc := 41) dX12_calling_41 (by decide) rfl ?_
      refine pv_aload_0 (pc := 43) dX12_calling_43 ?_
      refine pv_iload_3 (pc := 44) dX12_calling_44 ?_
      refine pv_callV1 (pc := 45) dX12_calling_45 mgX12_isChange lv_X12_122_12 (by decide) (sx_61 hT) (by omega) (c_X12_isChange ) rfl rfl (by decide) ?_
      refine pv_if_eq (pc := 48) (tgt := 63) dX12_calling_48 (by decide) (fun h48 => ?_) (fun h48 => ?_)
      · refine pv_iload_3 (pc := 63) dX12_calling_63 ?_
        refine pv_iconst (pc := 64) (v := 5) dX12_calling_64 (by decide) ?_
        refine pv_icmp_ne (pc := 65) (tgt := 75) dX12_calling_65 (by decide) (fun h65 => ?_) (fun h65 => ?_)
        · refine pv_iload_4 (pc := 75) dX12_calling_75 ?_
          refine pv_iret (pc := 77) dX12_calling_77 rfl rfl ?_
          refine ⟨?_, rfl, rfl, rfl, ?_, hX⟩
          · unfold w_calV
            first
              | (have f1 := (pv_b_n0 _).mp h48; have f2 : I 64 f.toNatClampNeg = J 2 f.toNatClampNeg := (hM.2.1 _ hn).2.1; rw [if_pos f1, f2])
              | (have f1 := (pv_b_0 _).mp h48; have f3 := h65; rw [if_neg (by rw [f1]; decide), if_pos f3])
              | (have f1 := (pv_b_0 _).mp h48; have f3 := h65; rw [if_neg (by rw [f1]; decide), if_neg f3])
          · unfold w_calB
            first
              | (have f1 := (pv_b_n0 _).mp h23; have f2 := h9; rw [if_pos f1, if_neg f2] ; exact hM)
              | (have f1 := (pv_b_0 _).mp h23; have f2 := h9; rw [if_neg (by rw [f1]; decide), if_neg f2]; exact hM)
              | (have f1 := (pv_b_0 _).mp h23; have f2 := h9; rw [if_neg (by rw [f1]; decide), if_pos f2]; exact hM)
              | (exfalso; have f1 := (pv_b_n0 _).mp h23; have f2 := h9; exact s_C5k f2 f1)
        · refine pv_iload_4 (pc := 68) dX12_calling_68 ?_
          refine pv_iconst (pc := 70) (v := 2) dX12_calling_70 (by decide) ?_
          refine pv_imul (pc := 71) dX12_calling_71 ?_
          refine pv_goto (pc := 72) (tgt := 77) dX12_calling_72 (by decide) ?_
          refine pv_iret (pc := 77) dX12_calling_77 rfl rfl ?_
          refine ⟨?_, rfl, rfl, rfl, ?_, hX⟩
          · unfold w_calV
            first
              | (have f1 := (pv_b_n0 _).mp h48; have f2 : I 64 f.toNatClampNeg = J 2 f.toNatClampNeg := (hM.2.1 _ hn).2.1; rw [if_pos f1, f2])
              | (have f1 := (pv_b_0 _).mp h48; have f3 := h65; rw [if_neg (by rw [f1]; decide), if_pos f3])
              | (have f1 := (pv_b_0 _).mp h48; have f3 := h65; rw [if_neg (by rw [f1]; decide), if_neg f3])
          · unfold w_calB
            first
              | (have f1 := (pv_b_n0 _).mp h23; have f2 := h9; rw [if_pos f1, if_neg f2] ; exact hM)
              | (have f1 := (pv_b_0 _).mp h23; have f2 := h9; rw [if_neg (by rw [f1]; decide), if_neg f2]; exact hM)
              | (have f1 := (pv_b_0 _).mp h23; have f2 := h9; rw [if_neg (by rw [f1]; decide), if_pos f2]; exact hM)
              | (exfalso; have f1 := (pv_b_n0 _).mp h23; have f2 := h9; exact s_C5k f2 f1)
      · refine pv_iload_4 (pc := 51) dX12_calling_51 ?_
        refine pv_aload_0 (pc := 53) dX12_calling_53 ?_
        refine pv_getR (pc := 54) dX12_calling_54 fg_X12_27_12 rfl (by decide) (sx_61 hT) (rx_61_9 hR) ?_
        refine pv_iload_1 (pc := 57) dX12_calling_57 ?_
        refine pv_ialoadj (pc := 58) dX12_calling_58 (sx_64 hT) rfl h8 ?_
        refine pv_iadd (pc := 59) dX12_calling_59 ?_
        refine pv_goto (pc := 60) (tgt := 77) dX12_calling_60 (by decide) ?_
        refine pv_iret (pc := 77) dX12_calling_77 rfl rfl ?_
        refine ⟨?_, rfl, rfl, rfl, ?_, hX⟩
        · unfold w_calV
          first
            | (have f1 := (pv_b_n0 _).mp h48; have f2 : I 64 f.toNatClampNeg = J 2 f.toNatClampNeg := (hM.2.1 _ hn).2.1; rw [if_pos f1, f2])
            | (have f1 := (pv_b_0 _).mp h48; have f3 := h65; rw [if_neg (by rw [f1]; decide), if_pos f3])
            | (have f1 := (pv_b_0 _).mp h48; have f3 := h65; rw [if_neg (by rw [f1]; decide), if_neg f3])
        · unfold w_calB
          first
            | (have f1 := (pv_b_n0 _).mp h23; have f2 := h9; rw [if_pos f1, if_neg f2] ; exact hM)
            | (have f1 := (pv_b_0 _).mp h23; have f2 := h9; rw [if_neg (by rw [f1]; decide), if_neg f2]; exact hM)
            | (have f1 := (pv_b_0 _).mp h23; have f2 := h9; rw [if_neg (by rw [f1]; decide), if_pos f2]; exact hM)
            | (exfalso; have f1 := (pv_b_n0 _).mp h23; have f2 := h9; exact s_C5k f2 f1)
    · refine pv_aload_0 (pc := 26) dX12_calling_26 ?_
      refine pv_bipush (pc := 27) (v := 20) dX12_calling_27 (by decide) ?_
      refine pv_callVq (pc := 29) dX12_calling_29 mgX12_body lv_X12_396_12 (by decide) (sx_61 hT) (by omega) (c_X12_body hT hR hM ⟨hr.1, by have := hr.2; omega⟩) rfl rfl (by decide) (fun v t I L Rf hq => ?_)
      obtain ⟨rfl, rfl, rfl, rfl, hM, hX2⟩ := hq
      have hX := hX.tr hX2
      have hr := body_n (b := 20) hr (by omega)
      refine pv_aload_0 (pc := 32) dX12_calling_32 ?_
      refine pv_bipush (pc := 33) (v := 10) dX12_calling_33 (by decide) ?_
      refine pv_callVq (pc := 35) dX12_calling_35 mgX12_body lv_X12_396_12 (by decide) (sx_61 hT) (by omega) (c_X12_body hT hR hM ⟨hr.1, by have := hr.2; omega⟩) rfl rfl (by decide) (fun v t I L Rf hq => ?_)
      obtain ⟨rfl, rfl, rfl, rfl, hM, hX2⟩ := hq
      have hX := hX.tr hX2
      have hr := body_n (b := 10) hr (by omega)
      refine pv_iload_2 (pc := 38) dX12_calling_38 ?_
      refine pv_iload_1 (pc := 39) dX12_calling_39 ?_
      refine pv_iadd (pc := 40) dX12_calling_40 ?_
      refine pv_istore_4 (pc := 41) dX12_calling_41 (by decide) rfl ?_
      refine pv_aload_0 (pc := 43) dX12_calling_43 ?_
      refine pv_iload_3 (pc := 44) dX12_calling_44 ?_
      refine pv_callV1 (pc := 45) dX12_calling_45 mgX12_isChange lv_X12_122_12 (by decide) (sx_61 hT) (by omega) (c_X12_isChange ) rfl rfl (by decide) ?_
      refine pv_if_eq (pc := 48) (tgt := 63) dX12_calling_48 (by decide) (fun h48 => ?_) (fun h48 => ?_)
      · refine pv_iload_3 (pc := 63) dX12_calling_63 ?_
        refine pv_iconst (pc := 64) (v := 5) dX12_calling_64 (by decide) ?_
        refine pv_icmp_ne (pc := 65) (tgt := 75) dX12_calling_65 (by decide) (fun h65 => ?_) (fun h65 => ?_)
        · refine pv_iload_4 (pc := 75) dX12_calling_75 ?_
          refine pv_iret (pc := 77) dX12_calling_77 rfl rfl ?_
          refine ⟨?_, rfl, rfl, rfl, ?_, hX⟩
          · unfold w_calV
            first
              | (have f1 := (pv_b_n0 _).mp h48; have f2 : I 64 f.toNatClampNeg = J 2 f.toNatClampNeg := (hM.2.1 _ hn).2.1; rw [if_pos f1, f2])
              | (have f1 := (pv_b_0 _).mp h48; have f3 := h65; rw [if_neg (by rw [f1]; decide), if_pos f3])
              | (have f1 := (pv_b_0 _).mp h48; have f3 := h65; rw [if_neg (by rw [f1]; decide), if_neg f3])
          · unfold w_calB
            first
              | (have f1 := (pv_b_n0 _).mp h23; have f2 := h9; rw [if_pos f1, if_neg f2] ; exact hM)
              | (have f1 := (pv_b_0 _).mp h23; have f2 := h9; rw [if_neg (by rw [f1]; decide), if_neg f2]; exact hM)
              | (have f1 := (pv_b_0 _).mp h23; have f2 := h9; rw [if_neg (by rw [f1]; decide), if_pos f2]; exact hM)
              | (exfalso; have f1 := (pv_b_n0 _).mp h23; have f2 := h9; exact s_C5k f2 f1)
        · refine pv_iload_4 (pc := 68) dX12_calling_68 ?_
          refine pv_iconst (pc := 70) (v := 2) dX12_calling_70 (by decide) ?_
          refine pv_imul (pc := 71) dX12_calling_71 ?_
          refine pv_goto (pc := 72) (tgt := 77) dX12_calling_72 (by decide) ?_
          refine pv_iret (pc := 77) dX12_calling_77 rfl rfl ?_
          refine ⟨?_, rfl, rfl, rfl, ?_, hX⟩
          · unfold w_calV
            first
              | (have f1 := (pv_b_n0 _).mp h48; have f2 : I 64 f.toNatClampNeg = J 2 f.toNatClampNeg := (hM.2.1 _ hn).2.1; rw [if_pos f1, f2])
              | (have f1 := (pv_b_0 _).mp h48; have f3 := h65; rw [if_neg (by rw [f1]; decide), if_pos f3])
              | (have f1 := (pv_b_0 _).mp h48; have f3 := h65; rw [if_neg (by rw [f1]; decide), if_neg f3])
          · unfold w_calB
            first
              | (have f1 := (pv_b_n0 _).mp h23; have f2 := h9; rw [if_pos f1, if_neg f2] ; exact hM)
              | (have f1 := (pv_b_0 _).mp h23; have f2 := h9; rw [if_neg (by rw [f1]; decide), if_neg f2]; exact hM)
              | (have f1 := (pv_b_0 _).mp h23; have f2 := h9; rw [if_neg (by rw [f1]; decide), if_pos f2]; exact hM)
              | (exfalso; have f1 := (pv_b_n0 _).mp h23; have f2 := h9; exact s_C5k f2 f1)
      · refine pv_iload_4 (pc := 51) dX12_calling_51 ?_
        refine pv_aload_0 (pc := 53) dX12_calling_53 ?_
        refine pv_getR (pc := 54) dX12_calling_54 fg_X12_27_12 rfl (by decide) (sx_61 hT) (rx_61_9 hR) ?_
        refine pv_iload_1 (pc := 57) dX12_calling_57 ?_
        refine pv_ialoadj (pc := 58) dX12_calling_58 (sx_64 hT) rfl h8 ?_
        refine pv_iadd (pc := 59) dX12_calling_59 ?_
        refine pv_goto (pc := 60) (tgt := 77) dX12_calling_60 (by decide) ?_
        refine pv_iret (pc := 77) dX12_calling_77 rfl rfl ?_
        refine ⟨?_, rfl, rfl, rfl, ?_, hX⟩
        · unfold w_calV
          first
            | (have f1 := (pv_b_n0 _).mp h48; have f2 : I 64 f.toNatClampNeg = J 2 f.toNatClampNeg := (hM.2.1 _ hn).2.1; rw [if_pos f1, f2])
            | (have f1 := (pv_b_0 _).mp h48; have f3 := h65; rw [if_neg (by rw [f1]; decide), if_pos f3])
            | (have f1 := (pv_b_0 _).mp h48; have f3 := h65; rw [if_neg (by rw [f1]; decide), if_neg f3])
        · unfold w_calB
          first
            | (have f1 := (pv_b_n0 _).mp h23; have f2 := h9; rw [if_pos f1, if_neg f2] ; exact hM)
            | (have f1 := (pv_b_0 _).mp h23; have f2 := h9; rw [if_neg (by rw [f1]; decide), if_neg f2]; exact hM)
            | (have f1 := (pv_b_0 _).mp h23; have f2 := h9; rw [if_neg (by rw [f1]; decide), if_pos f2]; exact hM)
            | (exfalso; have f1 := (pv_b_n0 _).mp h23; have f2 := h9; exact s_C5k f2 f1)
  · refine pv_aload_0 (pc := 12) dX12_calling_12 ?_
    refine pv_bipush (pc := 13) (v := 60) dX12_calling_13 (by decide) ?_
    refine pv_callVq (pc := 15) dX12_calling_15 mgX12_body lv_X12_396_12 (by decide) (sx_61 hT) (by omega) (c_X12_body hT hR hM ⟨hr.1, by have := hr.2; omega⟩) rfl rfl (by decide) (fun v t I L Rf hq => ?_)
    obtain ⟨rfl, rfl, rfl, rfl, hM, hX2⟩ := hq
    have hX := hX.tr hX2
    have hr := body_n (b := 60) hr (by omega)
    refine pv_aload_0 (pc := 18) dX12_calling_18 ?_
    refine pv_iload_3 (pc := 19) dX12_calling_19 ?_
    refine pv_callV1 (pc := 20) dX12_calling_20 mgX12_isChange lv_X12_122_12 (by decide) (sx_61 hT) (by omega) (c_X12_isChange ) rfl rfl (by decide) ?_
    refine pv_if_eq (pc := 23) (tgt := 32) dX12_calling_23 (by decide) (fun h23 => ?_) (fun h23 => ?_)
    · refine pv_aload_0 (pc := 32) dX12_calling_32 ?_
      refine pv_bipush (pc := 33) (v := 10) dX12_calling_33 (by decide) ?_
      refine pv_callVq (pc := 35) dX12_calling_35 mgX12_body lv_X12_396_12 (by decide) (sx_61 hT) (by omega) (c_X12_body hT hR hM ⟨hr.1, by have := hr.2; omega⟩) rfl rfl (by decide) (fun v t I L Rf hq => ?_)
      obtain ⟨rfl, rfl, rfl, rfl, hM, hX2⟩ := hq
      have hX := hX.tr hX2
      have hr := body_n (b := 10) hr (by omega)
      refine pv_iload_2 (pc := 38) dX12_calling_38 ?_
      refine pv_iload_1 (pc := 39) dX12_calling_39 ?_
      refine pv_iadd (pc := 40) dX12_calling_40 ?_
      refine pv_istore_4 (pc := 41) dX12_calling_41 (by decide) rfl ?_
      refine pv_aload_0 (pc := 43) dX12_calling_43 ?_
      refine pv_iload_3 (pc := 44) dX12_calling_44 ?_
      refine pv_callV1 (pc := 45) dX12_calling_45 mgX12_isChange lv_X12_122_12 (by decide) (sx_61 hT) (by omega) (c_X12_isChange ) rfl rfl (by decide) ?_
      refine pv_if_eq (pc := 48) (tgt := 63) dX12_calling_48 (by decide) (fun h48 => ?_) (fun h48 => ?_)
      · refine pv_iload_3 (pc := 63) dX12_calling_63 ?_
        refine pv_iconst (pc := 64) (v := 5) dX12_calling_64 (by decide) ?_
        refine pv_icmp_ne (pc := 65) (tgt := 75) dX12_calling_65 (by decide) (fun h65 => ?_) (fun h65 => ?_)
        · refine pv_iload_4 (pc := 75) dX12_calling_75 ?_
          refine pv_iret (pc := 77) dX12_calling_77 rfl rfl ?_
          refine ⟨?_, rfl, rfl, rfl, ?_, hX⟩
          · unfold w_calV
            first
              | (have f1 := (pv_b_n0 _).mp h48; have f2 : I 64 f.toNatClampNeg = J 2 f.toNatClampNeg := (hM.2.1 _ hn).2.1; rw [if_pos f1, f2])
              | (have f1 := (pv_b_0 _).mp h48; have f3 := h65; rw [if_neg (by rw [f1]; decide), if_pos f3])
              | (have f1 := (pv_b_0 _).mp h48; have f3 := h65; rw [if_neg (by rw [f1]; decide), if_neg f3])
          · unfold w_calB
            first
              | (have f1 := (pv_b_n0 _).mp h23; have f2 := h9; rw [if_pos f1, if_neg f2] ; exact hM)
              | (have f1 := (pv_b_0 _).mp h23; have f2 := h9; rw [if_neg (by rw [f1]; decide), if_neg f2]; exact hM)
              | (have f1 := (pv_b_0 _).mp h23; have f2 := h9; rw [if_neg (by rw [f1]; decide), if_pos f2]; exact hM)
              | (exfalso; have f1 := (pv_b_n0 _).mp h23; have f2 := h9; exact s_C5k f2 f1)
        · refine pv_iload_4 (pc := 68) dX12_calling_68 ?_
          refine pv_iconst (pc := 70) (v := 2) dX12_calling_70 (by decide) ?_
          refine pv_imul (pc := 71) dX12_calling_71 ?_
          refine pv_goto (pc := 72) (tgt := 77) dX12_calling_72 (by decide) ?_
          refine pv_iret (pc := 77) dX12_calling_77 rfl rfl ?_
          refine ⟨?_, rfl, rfl, rfl, ?_, hX⟩
          · unfold w_calV
            first
              | (have f1 := (pv_b_n0 _).mp h48; have f2 : I 64 f.toNatClampNeg = J 2 f.toNatClampNeg := (hM.2.1 _ hn).2.1; rw [if_pos f1, f2])
              | (have f1 := (pv_b_0 _).mp h48; have f3 := h65; rw [if_neg (by rw [f1]; decide), if_pos f3])
              | (have f1 := (pv_b_0 _).mp h48; have f3 := h65; rw [if_neg (by rw [f1]; decide), if_neg f3])
          · unfold w_calB
            first
              | (have f1 := (pv_b_n0 _).mp h23; have f2 := h9; rw [if_pos f1, if_neg f2] ; exact hM)
              | (have f1 := (pv_b_0 _).mp h23; have f2 := h9; rw [if_neg (by rw [f1]; decide), if_neg f2]; exact hM)
              | (have f1 := (pv_b_0 _).mp h23; have f2 := h9; rw [if_neg (by rw [f1]; decide), if_pos f2]; exact hM)
              | (exfalso; have f1 := (pv_b_n0 _).mp h23; have f2 := h9; exact s_C5k f2 f1)
      · refine pv_iload_4 (pc := 51) dX12_calling_51 ?_
        refine pv_aload_0 (pc := 53) dX12_calling_53 ?_
        refine pv_getR (pc := 54) dX12_calling_54 fg_X12_27_12 rfl (by decide) (sx_61 hT) (rx_61_9 hR) ?_
        refine pv_iload_1 (pc := 57) dX12_calling_57 ?_
        refine pv_ialoadj (pc := 58) dX12_calling_58 (sx_64 hT) rfl h8 ?_
        refine pv_iadd (pc := 59) dX12_calling_59 ?_
        refine pv_goto (pc := 60) (tgt := 77) dX12_calling_60 (by decide) ?_
        refine pv_iret (pc := 77) dX12_calling_77 rfl rfl ?_
        refine ⟨?_, rfl, rfl, rfl, ?_, hX⟩
        · unfold w_calV
          first
            | (have f1 := (pv_b_n0 _).mp h48; have f2 : I 64 f.toNatClampNeg = J 2 f.toNatClampNeg := (hM.2.1 _ hn).2.1; rw [if_pos f1, f2])
            | (have f1 := (pv_b_0 _).mp h48; have f3 := h65; rw [if_neg (by rw [f1]; decide), if_pos f3])
            | (have f1 := (pv_b_0 _).mp h48; have f3 := h65; rw [if_neg (by rw [f1]; decide), if_neg f3])
        · unfold w_calB
          first
            | (have f1 := (pv_b_n0 _).mp h23; have f2 := h9; rw [if_pos f1, if_neg f2] ; exact hM)
            | (have f1 := (pv_b_0 _).mp h23; have f2 := h9; rw [if_neg (by rw [f1]; decide), if_neg f2]; exact hM)
            | (have f1 := (pv_b_0 _).mp h23; have f2 := h9; rw [if_neg (by rw [f1]; decide), if_pos f2]; exact hM)
            | (exfalso; have f1 := (pv_b_n0 _).mp h23; have f2 := h9; exact s_C5k f2 f1)
    · refine pv_aload_0 (pc := 26) dX12_calling_26 ?_
      refine pv_bipush (pc := 27) (v := 20) dX12_calling_27 (by decide) ?_
      refine pv_callVq (pc := 29) dX12_calling_29 mgX12_body lv_X12_396_12 (by decide) (sx_61 hT) (by omega) (c_X12_body hT hR hM ⟨hr.1, by have := hr.2; omega⟩) rfl rfl (by decide) (fun v t I L Rf hq => ?_)
      obtain ⟨rfl, rfl, rfl, rfl, hM, hX2⟩ := hq
      have hX := hX.tr hX2
      have hr := body_n (b := 20) hr (by omega)
      refine pv_aload_0 (pc := 32) dX12_calling_32 ?_
      refine pv_bipush (pc := 33) (v := 10) dX12_calling_33 (by decide) ?_
      refine pv_callVq (pc := 35) dX12_calling_35 mgX12_body lv_X12_396_12 (by decide) (sx_61 hT) (by omega) (c_X12_body hT hR hM ⟨hr.1, by have := hr.2; omega⟩) rfl rfl (by decide) (fun v t I L Rf hq => ?_)
      obtain ⟨rfl, rfl, rfl, rfl, hM, hX2⟩ := hq
      have hX := hX.tr hX2
      have hr := body_n (b := 10) hr (by omega)
      refine pv_iload_2 (pc := 38) dX12_calling_38 ?_
      refine pv_iload_1 (pc := 39) dX12_calling_39 ?_
      refine pv_iadd (pc := 40) dX12_calling_40 ?_
      refine pv_istore_4 (pc := 41) dX12_calling_41 (by decide) rfl ?_
      refine pv_aload_0 (pc := 43) dX12_calling_43 ?_
      refine pv_iload_3 (pc := 44) dX12_calling_44 ?_
      refine pv_callV1 (pc := 45) dX12_calling_45 mgX12_isChange lv_X12_122_12 (by decide) (sx_61 hT) (by omega) (c_X12_isChange ) rfl rfl (by decide) ?_
      refine pv_if_eq (pc := 48) (tgt := 63) dX12_calling_48 (by decide) (fun h48 => ?_) (fun h48 => ?_)
      · refine pv_iload_3 (pc := 63) dX12_calling_63 ?_
        refine pv_iconst (pc := 64) (v := 5) dX12_calling_64 (by decide) ?_
        refine pv_icmp_ne (pc := 65) (tgt := 75) dX12_calling_65 (by decide) (fun h65 => ?_) (fun h65 => ?_)
        · refine pv_iload_4 (pc := 75) dX12_calling_75 ?_
          refine pv_iret (pc := 77) dX12_calling_77 rfl rfl ?_
          refine ⟨?_, rfl, rfl, rfl, ?_, hX⟩
          · unfold w_calV
            first
              | (have f1 := (pv_b_n0 _).mp h48; have f2 : I 64 f.toNatClampNeg = J 2 f.toNatClampNeg := (hM.2.1 _ hn).2.1; rw [if_pos f1, f2])
              | (have f1 := (pv_b_0 _).mp h48; have f3 := h65; rw [if_neg (by rw [f1]; decide), if_pos f3])
              | (have f1 := (pv_b_0 _).mp h48; have f3 := h65; rw [if_neg (by rw [f1]; decide), if_neg f3])
          · unfold w_calB
            first
              | (have f1 := (pv_b_n0 _).mp h23; have f2 := h9; rw [if_pos f1, if_neg f2] ; exact hM)
              | (have f1 := (pv_b_0 _).mp h23; have f2 := h9; rw [if_neg (by rw [f1]; decide), if_neg f2]; exact hM)
              | (have f1 := (pv_b_0 _).mp h23; have f2 := h9; rw [if_neg (by rw [f1]; decide), if_pos f2]; exact hM)
              | (exfalso; have f1 := (pv_b_n0 _).mp h23; have f2 := h9; exact s_C5k f2 f1)
        · refine pv_iload_4 (pc := 68) dX12_calling_68 ?_
          refine pv_iconst (pc := 70) (v := 2) dX12_calling_70 (by decide) ?_
          refine pv_imul (pc := 71) dX12_calling_71 ?_
          refine pv_goto (pc := 72) (tgt := 77) dX12_calling_72 (by decide) ?_
          refine pv_iret (pc := 77) dX12_calling_77 rfl rfl ?_
          refine ⟨?_, rfl, rfl, rfl, ?_, hX⟩
          · unfold w_calV
            first
              | (have f1 := (pv_b_n0 _).mp h48; have f2 : I 64 f.toNatClampNeg = J 2 f.toNatClampNeg := (hM.2.1 _ hn).2.1; rw [if_pos f1, f2])
              | (have f1 := (pv_b_0 _).mp h48; have f3 := h65; rw [if_neg (by rw [f1]; decide), if_pos f3])
              | (have f1 := (pv_b_0 _).mp h48; have f3 := h65; rw [if_neg (by rw [f1]; decide), if_neg f3])
          · unfold w_calB
            first
              | (have f1 := (pv_b_n0 _).mp h23; have f2 := h9; rw [if_pos f1, if_neg f2] ; exact hM)
              | (have f1 := (pv_b_0 _).mp h23; have f2 := h9; rw [if_neg (by rw [f1]; decide), if_neg f2]; exact hM)
              | (have f1 := (pv_b_0 _).mp h23; have f2 := h9; rw [if_neg (by rw [f1]; decide), if_pos f2]; exact hM)
              | (exfalso; have f1 := (pv_b_n0 _).mp h23; have f2 := h9; exact s_C5k f2 f1)
      · refine pv_iload_4 (pc := 51) dX12_calling_51 ?_
        refine pv_aload_0 (pc := 53) dX12_calling_53 ?_
        refine pv_getR (pc := 54) dX12_calling_54 fg_X12_27_12 rfl (by decide) (sx_61 hT) (rx_61_9 hR) ?_
        refine pv_iload_1 (pc := 57) dX12_calling_57 ?_
        refine pv_ialoadj (pc := 58) dX12_calling_58 (sx_64 hT) rfl h8 ?_
        refine pv_iadd (pc := 59) dX12_calling_59 ?_
        refine pv_goto (pc := 60) (tgt := 77) dX12_calling_60 (by decide) ?_
        refine pv_iret (pc := 77) dX12_calling_77 rfl rfl ?_
        refine ⟨?_, rfl, rfl, rfl, ?_, hX⟩
        · unfold w_calV
          first
            | (have f1 := (pv_b_n0 _).mp h48; have f2 : I 64 f.toNatClampNeg = J 2 f.toNatClampNeg := (hM.2.1 _ hn).2.1; rw [if_pos f1, f2])
            | (have f1 := (pv_b_0 _).mp h48; have f3 := h65; rw [if_neg (by rw [f1]; decide), if_pos f3])
            | (have f1 := (pv_b_0 _).mp h48; have f3 := h65; rw [if_neg (by rw [f1]; decide), if_neg f3])
        · unfold w_calB
          first
            | (have f1 := (pv_b_n0 _).mp h23; have f2 := h9; rw [if_pos f1, if_neg f2] ; exact hM)
            | (have f1 := (pv_b_0 _).mp h23; have f2 := h9; rw [if_neg (by rw [f1]; decide), if_neg f2]; exact hM)
            | (have f1 := (pv_b_0 _).mp h23; have f2 := h9; rw [if_neg (by rw [f1]; decide), if_pos f2]; exact hM)
            | (exfalso; have f1 := (pv_b_n0 _).mp h23; have f2 := h9; exact s_C5k f2 f1)

theorem body_n3 {J : pv_I} {k : Int32} {n : Nat} (h : 0 ≤ (J 0 5).toInt ∧ (J 0 5).toInt ≤ n) (hn : n < 80) : 0 ≤ (w_calB J k 0 5).toInt ∧ (w_calB J k 0 5).toInt ≤ (n + 3 : Nat) := by
  unfold w_calB
  have up : ∀ {J : pv_I} {n : Nat}, 0 ≤ (J 0 5).toInt ∧ (J 0 5).toInt ≤ (n : Nat) → 0 ≤ (J 0 5).toInt ∧ (J 0 5).toInt ≤ (n + 1 : Nat) := fun h => ⟨h.1, by have := h.2; omega⟩
  have a1 : 0 ≤ ((if k = 5 then w_body J 60 else J) 0 5).toInt ∧ ((if k = 5 then w_body J 60 else J) 0 5).toInt ≤ (n + 1 : Nat) := by
    split
    · exact body_n h (by omega)
    · exact up h
  refine body_n (n := n + 2) ?_ (by omega)
  split
  · exact body_n a1 (by omega)
  · exact up a1
theorem w_calB_1 (J : pv_I) (k : Int32) (a j : Nat) (h : ¬ a = 11) (h0 : ¬ (a = 0 ∧ j = 5)) : w_calB J k a j = J a j := by
  have e : ∀ (J : pv_I) (b : Int32), w_body J b a j = J a j := fun J b => by unfold w_body; rw [pv_u_app, if_neg h0, pv_u_app, if_neg (fun q => h q.1)]
  unfold w_calB
  rw [e]
  split
  · rw [e]; split
    · rw [e]
    · rfl
  · split
    · rw [e]
    · rfl
theorem WF.act {J J1 : pv_I} {K : pv_L} (h : WF J K) (e : ∀ a j, ¬ a = 11 → ¬ (a = 0 ∧ j = 5) → J1 a j = J a j) : WF J1 K := by
  unfold WF wf_fig wf_sh at h ⊢
  simp only [e _ _ (show ¬ 0 = 11 by decide) (show ¬ (0 = 0 ∧ 0 = 5) by decide), e _ _ (show ¬ 0 = 11 by decide) (show ¬ (0 = 0 ∧ 6 = 5) by decide), e _ _ (show ¬ 0 = 11 by decide) (show ¬ (0 = 0 ∧ 7 = 5) by decide), fun j => e 1 j (by decide) (by omega), fun j => e 2 j (by decide) (by omega), fun j => e 3 j (by decide) (by omega), fun j => e 6 j (by decide) (by omega), fun j => e 7 j (by decide) (by omega), fun j => e 8 j (by decide) (by omega), fun j => e 9 j (by decide) (by omega)]
  exact h
theorem body_wf {J : pv_I} {K : pv_L} {b : Int32} (h : WF J K) : WF (w_body J b) K := h.act (fun a j h1 h2 => by unfold w_body; rw [pv_u_app, if_neg h2, pv_u_app, if_neg (fun q => h1 q.1)])
theorem calB_wf {J : pv_I} {K : pv_L} {k : Int32} (h : WF J K) : WF (w_calB J k) K := h.act (fun a j h1 h2 => w_calB_1 J k a j h1 h2)
def w_stV (J : pv_I) (f : Nat) (y x : Int32) : Int32 := if J 1 f = 2 then w_calV J f y x * 2 * 3 else if J 1 f = 3 then w_calV J f y (x + 1) * 2 else if J 1 f = 6 then w_calV J f y (x - J 2 f) * 2 else w_calV J f y x * 2
def w_stB (J : pv_I) (k : Int32) : pv_I := w_calB (w_body (if k = 2 then w_body J 30 else if k = 3 then w_body J 40 else if k = 6 then w_body J 71 else J) 11) k
theorem pv_topv2 {G : pv_G} {M : pv_Mth} {d mc ms bc bs pc : Nat} {Q : pv_Q} {ls st : List Value} {t : pv_T} {I : pv_I} {L : pv_L} {Rf : pv_R} {x y : Int32} (h : x = y) (k : pv_V G M d mc ms Q bc bs pc ls (.int y :: st) t I L Rf) : pv_V G M d mc ms Q bc bs pc ls (.int x :: st) t I L Rf := h ▸ k
set_option maxRecDepth 100000 in
set_option maxHeartbeats 4000000 in
theorem c_X12_stepping {G : pv_G} {d : Nat} {J : pv_I} {K : pv_L} {f x : Int32} {n : Nat} {t : pv_T} {I : pv_I} {L : pv_L} {Rf : pv_R} (hT : sh_ok t) (hR : rf_ok Rf) (hW : WF J K) (hM : RM J K I L) (hF : w_isF J f) (hr : 0 ≤ (J 0 5).toInt ∧ (J 0 5).toInt ≤ n) (hn9 : n < 70) (hd : 2 ≤ d) : pv_Mt G mX12_stepping d 0 0 [.ref 61, .int f, .int x] t I L Rf (qB (w_stB J (J 1 f.toNatClampNeg)) K (some (.int (w_stV J f.toNatClampNeg f x))) t I L Rf) := by
  refine pv_mt mgX12_stepping.2.2.2.2.2 [.ref 61, .int f, .int x, .retAddr 0, .retAddr 0, .retAddr 0] rfl (Nat.le_of_ble_eq_true rfl) ?_
  have hX : kX I L I L := kX.rf
  obtain ⟨h8, hn⟩ := hF.nat hW
  refine pv_aload_0 (pc := 0) dX12_stepping_0 ?_
  refine pv_getR (pc := 1) dX12_stepping_1 fg_X12_24_12 rfl (by decide) (sx_61 hT) (rx_61_8 hR) ?_
  refine pv_iload_1 (pc := 4) dX12_stepping_4 ?_
  refine pv_ialoadj (pc := 5) dX12_stepping_5 (sx_63 hT) rfl h8 ?_
  refine pv_topv (y := J 1 f.toNatClampNeg) (hM.2.1 _ hn).1 ?_
  refine pv_istore_3 (pc := 6) dX12_stepping_6 (by decide) rfl ?_
  refine pv_iload_2 (pc := 7) dX12_stepping_7 ?_
  refine pv_istore_4 (pc := 8) dX12_stepping_8 (by decide) rfl ?_
  refine pv_iload_3 (pc := 10) dX12_stepping_10 ?_
  refine pv_iconst (pc := 11) (v := 2) dX12_stepping_11 (by decide) ?_
  refine pv_icmp_ne (pc := 12) (tgt := 21) dX12_stepping_12 (by decide) (fun h12 => ?_) (fun h12 => ?_)
  · refine pv_iload_3 (pc := 21) dX12_stepping_21 ?_
    refine pv_iconst (pc := 22) (v := 3) dX12_stepping_22 (by decide) ?_
    refine pv_icmp_ne (pc := 23) (tgt := 37) dX12_stepping_23 (by decide) (fun h23 => ?_) (fun h23 => ?_)
    · refine pv_iload_3 (pc := 37) dX12_stepping_37 ?_
      refine pv_bipush (pc := 38) (v := 6) dX12_stepping_38 (by decide) ?_
      refine pv_icmp_ne (pc := 40) (tgt := 59) dX12_stepping_40 (by decide) (fun h40 => ?_) (fun h40 => ?_)
      · refine pv_aload_0 (pc := 59) dX12_stepping_59 ?_
        refine pv_bipush (pc := 60) (v := 11) dX12_stepping_60 (by decide) ?_
        refine pv_callVq (pc := 62) dX12_stepping_62 mgX12_body lv_X12_396_12 (by decide) (sx_61 hT) (by omega) (c_X12_body hT hR hM ⟨hr.1, by have := hr.2; omega⟩) rfl rfl (by decide) (fun v t I L Rf hq => ?_)
        obtain ⟨rfl, rfl, rfl, rfl, hM, hX2⟩ := hq
        have hX := hX.tr hX2
        have hr := body_n (b := 11) hr (by omega)
        have hW := body_wf (b := 11) hW
        refine pv_aload_0 (pc := 65) dX12_stepping_65 ?_
        refine pv_iload_1 (pc := 66) dX12_stepping_66 ?_
        refine pv_iload_4 (pc := 67) dX12_stepping_67 ?_
        refine pv_callVq (pc := 69) dX12_stepping_69 mgX12_calling lv_X12_399_12 (by decide) (sx_61 hT) (by omega) (c_X12_calling hT hR hW hM hF hr (by omega) (by omega)) rfl rfl (by decide) (fun v t I L Rf hq => ?_)
        obtain ⟨rfl, rfl, rfl, rfl, hM, hX2⟩ := hq
        have hX := hX.tr hX2
        refine pv_iconst (pc := 72) (v := 2) dX12_stepping_72 (by decide) ?_
        refine pv_imul (pc := 73) dX12_stepping_73 ?_
        refine pv_istore_5 (pc := 74) dX12_stepping_74 (by decide) rfl ?_
        refine pv_iload_3 (pc := 76) dX12_stepping_76 ?_
        refine pv_iconst (pc := 77) (v := 2) dX12_stepping_77 (by decide) ?_
        refine pv_icmp_ne (pc := 78) (tgt := 88) dX12_stepping_78 (by decide) (fun h78 => ?_) (fun h78 => ?_)
        · refine pv_iload_5 (pc := 88) dX12_stepping_88 ?_
          refine pv_iret (pc := 90) dX12_stepping_90 rfl rfl ?_
          first
            | (exfalso; first | (have f1 := h12; have f2 := h23; rw [f1] at f2; exact absurd f2 (by decide)) | (have f1 := h12; have f2 := h40; rw [f1] at f2; exact absurd f2 (by decide)) | (have f1 := h23; have f2 := h40; rw [f1] at f2; exact absurd f2 (by decide)) | exact h12 h78 | exact h78 h12)
            | (refine ⟨?_, rfl, rfl, rfl, ?_, hX⟩
               · unfold w_stV
                 first
                   | (have f1 := h12; rw [if_pos f1]; rfl)
                   | (have f1 := h12; have f2 := h23; rw [if_neg f1, if_pos f2]; rfl)
                   | (have f1 := h12; have f2 := h23; have f3 := h40; rw [if_neg f1, if_neg f2, if_pos f3]; rfl)
                   | (have f1 := h12; have f2 := h23; have f3 := h40; rw [if_neg f1, if_neg f2, if_neg f3]; rfl)
               · unfold w_stB
                 first
                   | (have f1 := h12; rw [if_pos f1]; exact hM)
                   | (have f1 := h12; have f2 := h23; rw [if_neg f1, if_pos f2]; exact hM)
                   | (have f1 := h12; have f2 := h23; have f3 := h40; rw [if_neg f1, if_neg f2, if_pos f3]; exact hM)
                   | (have f1 := h12; have f2 := h23; have f3 := h40; rw [if_neg f1, if_neg f2, if_neg f3]; exact hM))
        · refine pv_iload_5 (pc := 81) dX12_stepping_81 ?_
          refine pv_iconst (pc := 83) (v := 3) dX12_stepping_83 (by decide) ?_
          refine pv_imul (pc := 84) dX12_stepping_84 ?_
          refine pv_goto (pc := 85) (tgt := 90) dX12_stepping_85 (by decide) ?_
          refine pv_iret (pc := 90) dX12_stepping_90 rfl rfl ?_
          first
            | (exfalso; first | (have f1 := h12; have f2 := h23; rw [f1] at f2; exact absurd f2 (by decide)) | (have f1 := h12; have f2 := h40; rw [f1] at f2; exact absurd f2 (by decide)) | (have f1 := h23; have f2 := h40; rw [f1] at f2; exact absurd f2 (by decide)) | exact h12 h78 | exact h78 h12)
            | (refine ⟨?_, rfl, rfl, rfl, ?_, hX⟩
               · unfold w_stV
                 first
                   | (have f1 := h12; rw [if_pos f1]; rfl)
                   | (have f1 := h12; have f2 := h23; rw [if_neg f1, if_pos f2]; rfl)
                   | (have f1 := h12; have f2 := h23; have f3 := h40; rw [if_neg f1, if_neg f2, if_pos f3]; rfl)
                   | (have f1 := h12; have f2 := h23; have f3 := h40; rw [if_neg f1, if_neg f2, if_neg f3]; rfl)
               · unfold w_stB
                 first
                   | (have f1 := h12; rw [if_pos f1]; exact hM)
                   | (have f1 := h12; have f2 := h23; rw [if_neg f1, if_pos f2]; exact hM)
                   | (have f1 := h12; have f2 := h23; have f3 := h40; rw [if_neg f1, if_neg f2, if_pos f3]; exact hM)
                   | (have f1 := h12; have f2 := h23; have f3 := h40; rw [if_neg f1, if_neg f2, if_neg f3]; exact hM))
      · refine pv_aload_0 (pc := 43) dX12_stepping_43 ?_
        refine pv_bipush (pc := 44) (v := 71) dX12_stepping_44 (by decide) ?_
        refine pv_callVq (pc := 46) dX12_stepping_46 mgX12_body lv_X12_396_12 (by decide) (sx_61 hT) (by omega) (c_X12_body hT hR hM ⟨hr.1, by have := hr.2; omega⟩) rfl rfl (by decide) (fun v t I L Rf hq => ?_)
        obtain ⟨rfl, rfl, rfl, rfl, hM, hX2⟩ := hq
        have hX := hX.tr hX2
        have hr := body_n (b := 71) hr (by omega)
        have hW := body_wf (b := 71) hW
        refine pv_iload_2 (pc := 49) dX12_stepping_49 ?_
        refine pv_aload_0 (pc := 50) dX12_stepping_50 ?_
        refine pv_getR (pc := 51) dX12_stepping_51 fg_X12_27_12 rfl (by decide) (sx_61 hT) (rx_61_9 hR) ?_
        refine pv_iload_1 (pc := 54) dX12_stepping_54 ?_
        refine pv_ialoadj (pc := 55) dX12_stepping_55 (sx_64 hT) rfl h8 ?_
        refine pv_topv2 (y := J 2 f.toNatClampNeg) (hM.2.1 _ hn).2.1 ?_
        refine pv_isub (pc := 56) dX12_stepping_56 ?_
        refine pv_istore_4 (pc := 57) dX12_stepping_57 (by decide) rfl ?_
        refine pv_aload_0 (pc := 59) dX12_stepping_59 ?_
        refine pv_bipush (pc := 60) (v := 11) dX12_stepping_60 (by decide) ?_
        refine pv_callVq (pc := 62) dX12_stepping_62 mgX12_body lv_X12_396_12 (by decide) (sx_61 hT) (by omega) (c_X12_body hT hR hM ⟨hr.1, by have := hr.2; omega⟩) rfl rfl (by decide) (fun v t I L Rf hq => ?_)
        obtain ⟨rfl, rfl, rfl, rfl, hM, hX2⟩ := hq
        have hX := hX.tr hX2
        have hr := body_n (b := 11) hr (by omega)
        have hW := body_wf (b := 11) hW
        refine pv_aload_0 (pc := 65) dX12_stepping_65 ?_
        refine pv_iload_1 (pc := 66) dX12_stepping_66 ?_
        refine pv_iload_4 (pc := 67) dX12_stepping_67 ?_
        refine pv_callVq (pc := 69) dX12_stepping_69 mgX12_calling lv_X12_399_12 (by decide) (sx_61 hT) (by omega) (c_X12_calling hT hR hW hM hF hr (by omega) (by omega)) rfl rfl (by decide) (fun v t I L Rf hq => ?_)
        obtain ⟨rfl, rfl, rfl, rfl, hM, hX2⟩ := hq
        have hX := hX.tr hX2
        refine pv_iconst (pc := 72) (v := 2) dX12_stepping_72 (by decide) ?_
        refine pv_imul (pc := 73) dX12_stepping_73 ?_
        refine pv_istore_5 (pc := 74) dX12_stepping_74 (by decide) rfl ?_
        refine pv_iload_3 (pc := 76) dX12_stepping_76 ?_
        refine pv_iconst (pc := 77) (v := 2) dX12_stepping_77 (by decide) ?_
        refine pv_icmp_ne (pc := 78) (tgt := 88) dX12_stepping_78 (by decide) (fun h78 => ?_) (fun h78 => ?_)
        · refine pv_iload_5 (pc := 88) dX12_stepping_88 ?_
          refine pv_iret (pc := 90) dX12_stepping_90 rfl rfl ?_
          first
            | (exfalso; first | (have f1 := h12; have f2 := h23; rw [f1] at f2; exact absurd f2 (by decide)) | (have f1 := h12; have f2 := h40; rw [f1] at f2; exact absurd f2 (by decide)) | (have f1 := h23; have f2 := h40; rw [f1] at f2; exact absurd f2 (by decide)) | exact h12 h78 | exact h78 h12)
            | (refine ⟨?_, rfl, rfl, rfl, ?_, hX⟩
               · unfold w_stV
                 first
                   | (have f1 := h12; rw [if_pos f1]; rfl)
                   | (have f1 := h12; have f2 := h23; rw [if_neg f1, if_pos f2]; rfl)
                   | (have f1 := h12; have f2 := h23; have f3 := h40; rw [if_neg f1, if_neg f2, if_pos f3]; rfl)
                   | (have f1 := h12; have f2 := h23; have f3 := h40; rw [if_neg f1, if_neg f2, if_neg f3]; rfl)
               · unfold w_stB
                 first
                   | (have f1 := h12; rw [if_pos f1]; exact hM)
                   | (have f1 := h12; have f2 := h23; rw [if_neg f1, if_pos f2]; exact hM)
                   | (have f1 := h12; have f2 := h23; have f3 := h40; rw [if_neg f1, if_neg f2, if_pos f3]; exact hM)
                   | (have f1 := h12; have f2 := h23; have f3 := h40; rw [if_neg f1, if_neg f2, if_neg f3]; exact hM))
        · refine pv_iload_5 (pc := 81) dX12_stepping_81 ?_
          refine pv_iconst (pc := 83) (v := 3) dX12_stepping_83 (by decide) ?_
          refine pv_imul (pc := 84) dX12_stepping_84 ?_
          refine pv_goto (pc := 85) (tgt := 90) dX12_stepping_85 (by decide) ?_
          refine pv_iret (pc := 90) dX12_stepping_90 rfl rfl ?_
          first
            | (exfalso; first | (have f1 := h12; have f2 := h23; rw [f1] at f2; exact absurd f2 (by decide)) | (have f1 := h12; have f2 := h40; rw [f1] at f2; exact absurd f2 (by decide)) | (have f1 := h23; have f2 := h40; rw [f1] at f2; exact absurd f2 (by decide)) | exact h12 h78 | exact h78 h12)
            | (refine ⟨?_, rfl, rfl, rfl, ?_, hX⟩
               · unfold w_stV
                 first
                   | (have f1 := h12; rw [if_pos f1]; rfl)
                   | (have f1 := h12; have f2 := h23; rw [if_neg f1, if_pos f2]; rfl)
                   | (have f1 := h12; have f2 := h23; have f3 := h40; rw [if_neg f1, if_neg f2, if_pos f3]; rfl)
                   | (have f1 := h12; have f2 := h23; have f3 := h40; rw [if_neg f1, if_neg f2, if_neg f3]; rfl)
               · unfold w_stB
                 first
                   | (have f1 := h12; rw [if_pos f1]; exact hM)
                   | (have f1 := h12; have f2 := h23; rw [if_neg f1, if_pos f2]; exact hM)
                   | (have f1 := h12; have f2 := h23; have f3 := h40; rw [if_neg f1, if_neg f2, if_pos f3]; exact hM)
                   | (have f1 := h12; have f2 := h23; have f3 := h40; rw [if_neg f1, if_neg f2, if_neg f3]; exact hM))
    · refine pv_aload_0 (pc := 26) dX12_stepping_26 ?_
      refine pv_bipush (pc := 27) (v := 40) dX12_stepping_27 (by decide) ?_
      refine pv_callVq (pc := 29) dX12_stepping_29 mgX12_body lv_X12_396_12 (by decide) (sx_61 hT) (by omega) (c_X12_body hT hR hM ⟨hr.1, by have := hr.2; omega⟩) rfl rfl (by decide) (fun v t I L Rf hq => ?_)
      obtain ⟨rfl, rfl, rfl, rfl, hM, hX2⟩ := hq
      have hX := hX.tr hX2
      have hr := body_n (b := 40) hr (by omega)
      have hW := body_wf (b := 40) hW
      refine pv_iload_2 (pc := 32) dX12_stepping_32 ?_
      refine pv_iconst (pc := 33) (v := 1) dX12_stepping_33 (by decide) ?_
      refine pv_iadd (pc := 34) dX12_stepping_34 ?_
      refine pv_istore_4 (pc := 35) dX12_stepping_35 (by decide) rfl ?_
      refine pv_iload_3 (pc := 37) dX12_stepping_37 ?_
      refine pv_bipush (pc := 38) (v := 6) dX12_stepping_38 (by decide) ?_
      refine pv_icmp_ne (pc := 40) (tgt := 59) dX12_stepping_40 (by decide) (fun h40 => ?_) (fun h40 => ?_)
      · refine pv_aload_0 (pc := 59) dX12_stepping_59 ?_
        refine pv_bipush (pc := 60) (v := 11) dX12_stepping_60 (by decide) ?_
        refine pv_callVq (pc := 62) dX12_stepping_62 mgX12_body lv_X12_396_12 (by decide) (sx_61 hT) (by omega) (c_X12_body hT hR hM ⟨hr.1, by have := hr.2; omega⟩) rfl rfl (by decide) (fun v t I L Rf hq => ?_)
        obtain ⟨rfl, rfl, rfl, rfl, hM, hX2⟩ := hq
        have hX := hX.tr hX2
        have hr := body_n (b := 11) hr (by omega)
        have hW := body_wf (b := 11) hW
        refine pv_aload_0 (pc := 65) dX12_stepping_65 ?_
        refine pv_iload_1 (pc := 66) dX12_stepping_66 ?_
        refine pv_iload_4 (pc := 67) dX12_stepping_67 ?_
        refine pv_callVq (pc := 69) dX12_stepping_69 mgX12_calling lv_X12_399_12 (by decide) (sx_61 hT) (by omega) (c_X12_calling hT hR hW hM hF hr (by omega) (by omega)) rfl rfl (by decide) (fun v t I L Rf hq => ?_)
        obtain ⟨rfl, rfl, rfl, rfl, hM, hX2⟩ := hq
        have hX := hX.tr hX2
        refine pv_iconst (pc := 72) (v := 2) dX12_stepping_72 (by decide) ?_
        refine pv_imul (pc := 73) dX12_stepping_73 ?_
        refine pv_istore_5 (pc := 74) dX12_stepping_74 (by decide) rfl ?_
        refine pv_iload_3 (pc := 76) dX12_stepping_76 ?_
        refine pv_iconst (pc := 77) (v := 2) dX12_stepping_77 (by decide) ?_
        refine pv_icmp_ne (pc := 78) (tgt := 88) dX12_stepping_78 (by decide) (fun h78 => ?_) (fun h78 => ?_)
        · refine pv_iload_5 (pc := 88) dX12_stepping_88 ?_
          refine pv_iret (pc := 90) dX12_stepping_90 rfl rfl ?_
          first
            | (exfalso; first | (have f1 := h12; have f2 := h23; rw [f1] at f2; exact absurd f2 (by decide)) | (have f1 := h12; have f2 := h40; rw [f1] at f2; exact absurd f2 (by decide)) | (have f1 := h23; have f2 := h40; rw [f1] at f2; exact absurd f2 (by decide)) | exact h12 h78 | exact h78 h12)
            | (refine ⟨?_, rfl, rfl, rfl, ?_, hX⟩
               · unfold w_stV
                 first
                   | (have f1 := h12; rw [if_pos f1]; rfl)
                   | (have f1 := h12; have f2 := h23; rw [if_neg f1, if_pos f2]; rfl)
                   | (have f1 := h12; have f2 := h23; have f3 := h40; rw [if_neg f1, if_neg f2, if_pos f3]; rfl)
                   | (have f1 := h12; have f2 := h23; have f3 := h40; rw [if_neg f1, if_neg f2, if_neg f3]; rfl)
               · unfold w_stB
                 first
                   | (have f1 := h12; rw [if_pos f1]; exact hM)
                   | (have f1 := h12; have f2 := h23; rw [if_neg f1, if_pos f2]; exact hM)
                   | (have f1 := h12; have f2 := h23; have f3 := h40; rw [if_neg f1, if_neg f2, if_pos f3]; exact hM)
                   | (have f1 := h12; have f2 := h23; have f3 := h40; rw [if_neg f1, if_neg f2, if_neg f3]; exact hM))
        · refine pv_iload_5 (pc := 81) dX12_stepping_81 ?_
          refine pv_iconst (pc := 83) (v := 3) dX12_stepping_83 (by decide) ?_
          refine pv_imul (pc := 84) dX12_stepping_84 ?_
          refine pv_goto (pc := 85) (tgt := 90) dX12_stepping_85 (by decide) ?_
          refine pv_iret (pc := 90) dX12_stepping_90 rfl rfl ?_
          first
            | (exfalso; first | (have f1 := h12; have f2 := h23; rw [f1] at f2; exact absurd f2 (by decide)) | (have f1 := h12; have f2 := h40; rw [f1] at f2; exact absurd f2 (by decide)) | (have f1 := h23; have f2 := h40; rw [f1] at f2; exact absurd f2 (by decide)) | exact h12 h78 | exact h78 h12)
            | (refine ⟨?_, rfl, rfl, rfl, ?_, hX⟩
               · unfold w_stV
                 first
                   | (have f1 := h12; rw [if_pos f1]; rfl)
                   | (have f1 := h12; have f2 := h23; rw [if_neg f1, if_pos f2]; rfl)
                   | (have f1 := h12; have f2 := h23; have f3 := h40; rw [if_neg f1, if_neg f2, if_pos f3]; rfl)
                   | (have f1 := h12; have f2 := h23; have f3 := h40; rw [if_neg f1, if_neg f2, if_neg f3]; rfl)
               · unfold w_stB
                 first
                   | (have f1 := h12; rw [if_pos f1]; exact hM)
                   | (have f1 := h12; have f2 := h23; rw [if_neg f1, if_pos f2]; exact hM)
                   | (have f1 := h12; have f2 := h23; have f3 := h40; rw [if_neg f1, if_neg f2, if_pos f3]; exact hM)
                   | (have f1 := h12; have f2 := h23; have f3 := h40; rw [if_neg f1, if_neg f2, if_neg f3]; exact hM))
      · refine pv_aload_0 (pc := 43) dX12_stepping_43 ?_
        refine pv_bipush (pc := 44) (v := 71) dX12_stepping_44 (by decide) ?_
        refine pv_callVq (pc := 46) dX12_stepping_46 mgX12_body lv_X12_396_12 (by decide) (sx_61 hT) (by omega) (c_X12_body hT hR hM ⟨hr.1, by have := hr.2; omega⟩) rfl rfl (by decide) (fun v t I L Rf hq => ?_)
        obtain ⟨rfl, rfl, rfl, rfl, hM, hX2⟩ := hq
        have hX := hX.tr hX2
        have hr := body_n (b := 71) hr (by omega)
        have hW := body_wf (b := 71) hW
        refine pv_iload_2 (pc := 49) dX12_stepping_49 ?_
        refine pv_aload_0 (pc := 50) dX12_stepping_50 ?_
        refine pv_getR (pc := 51) dX12_stepping_51 fg_X12_27_12 rfl (by decide) (sx_61 hT) (rx_61_9 hR) ?_
        refine pv_iload_1 (pc := 54) dX12_stepping_54 ?_
        refine pv_ialoadj (pc := 55) dX12_stepping_55 (sx_64 hT) rfl h8 ?_
        refine pv_topv2 (y := J 2 f.toNatClampNeg) (hM.2.1 _ hn).2.1 ?_
        refine pv_isub (pc := 56) dX12_stepping_56 ?_
        refine pv_istore_4 (pc := 57) dX12_stepping_57 (by decide) rfl ?_
        refine pv_aload_0 (pc := 59) dX12_stepping_59 ?_
        refine pv_bipush (pc := 60) (v := 11) dX12_stepping_60 (by decide) ?_
        refine pv_callVq (pc := 62) dX12_stepping_62 mgX12_body lv_X12_396_12 (by decide) (sx_61 hT) (by omega) (c_X12_body hT hR hM ⟨hr.1, by have := hr.2; omega⟩) rfl rfl (by decide) (fun v t I L Rf hq => ?_)
        obtain ⟨rfl, rfl, rfl, rfl, hM, hX2⟩ := hq
        have hX := hX.tr hX2
        have hr := body_n (b := 11) hr (by omega)
        have hW := body_wf (b := 11) hW
        refine pv_aload_0 (pc := 65) dX12_stepping_65 ?_
        refine pv_iload_1 (pc := 66) dX12_stepping_66 ?_
        refine pv_iload_4 (pc := 67) dX12_stepping_67 ?_
        refine pv_callVq (pc := 69) dX12_stepping_69 mgX12_calling lv_X12_399_12 (by decide) (sx_61 hT) (by omega) (c_X12_calling hT hR hW hM hF hr (by omega) (by omega)) rfl rfl (by decide) (fun v t I L Rf hq => ?_)
        obtain ⟨rfl, rfl, rfl, rfl, hM, hX2⟩ := hq
        have hX := hX.tr hX2
        refine pv_iconst (pc := 72) (v := 2) dX12_stepping_72 (by decide) ?_
        refine pv_imul (pc := 73) dX12_stepping_73 ?_
        refine pv_istore_5 (pc := 74) dX12_stepping_74 (by decide) rfl ?_
        refine pv_iload_3 (pc := 76) dX12_stepping_76 ?_
        refine pv_iconst (pc := 77) (v := 2) dX12_stepping_77 (by decide) ?_
        refine pv_icmp_ne (pc := 78) (tgt := 88) dX12_stepping_78 (by decide) (fun h78 => ?_) (fun h78 => ?_)
        · refine pv_iload_5 (pc := 88) dX12_stepping_88 ?_
          refine pv_iret (pc := 90) dX12_stepping_90 rfl rfl ?_
          first
            | (exfalso; first | (have f1 := h12; have f2 := h23; rw [f1] at f2; exact absurd f2 (by decide)) | (have f1 := h12; have f2 := h40; rw [f1] at f2; exact absurd f2 (by decide)) | (have f1 := h23; have f2 := h40; rw [f1] at f2; exact absurd f2 (by decide)) | exact h12 h78 | exact h78 h12)
            | (refine ⟨?_, rfl, rfl, rfl, ?_, hX⟩
               · unfold w_stV
                 first
                   | (have f1 := h12; rw [if_pos f1]; rfl)
                   | (have f1 := h12; have f2 := h23; rw [if_neg f1, if_pos f2]; rfl)
                   | (have f1 := h12; have f2 := h23; have f3 := h40; rw [if_neg f1, if_neg f2, if_pos f3]; rfl)
                   | (have f1 := h12; have f2 := h23; have f3 := h40; rw [if_neg f1, if_neg f2, if_neg f3]; rfl)
               · unfold w_stB
                 first
                   | (have f1 := h12; rw [if_pos f1]; exact hM)
                   | (have f1 := h12; have f2 := h23; rw [if_neg f1, if_pos f2]; exact hM)
                   | (have f1 := h12; have f2 := h23; have f3 := h40; rw [if_neg f1, if_neg f2, if_pos f3]; exact hM)
                   | (have f1 := h12; have f2 := h23; have f3 := h40; rw [if_neg f1, if_neg f2, if_neg f3]; exact hM))
        · refine pv_iload_5 (pc := 81) dX12_stepping_81 ?_
          refine pv_iconst (pc := 83) (v := 3) dX12_stepping_83 (by decide) ?_
          refine pv_imul (pc := 84) dX12_stepping_84 ?_
          refine pv_goto (pc := 85) (tgt := 90) dX12_stepping_85 (by decide) ?_
          refine pv_iret (pc := 90) dX12_stepping_90 rfl rfl ?_
          first
            | (exfalso; first | (have f1 := h12; have f2 := h23; rw [f1] at f2; exact absurd f2 (by decide)) | (have f1 := h12; have f2 := h40; rw [f1] at f2; exact absurd f2 (by decide)) | (have f1 := h23; have f2 := h40; rw [f1] at f2; exact absurd f2 (by decide)) | exact h12 h78 | exact h78 h12)
            | (refine ⟨?_, rfl, rfl, rfl, ?_, hX⟩
               · unfold w_stV
                 first
                   | (have f1 := h12; rw [if_pos f1]; rfl)
                   | (have f1 := h12; have f2 := h23; rw [if_neg f1, if_pos f2]; rfl)
                   | (have f1 := h12; have f2 := h23; have f3 := h40; rw [if_neg f1, if_neg f2, if_pos f3]; rfl)
                   | (have f1 := h12; have f2 := h23; have f3 := h40; rw [if_neg f1, if_neg f2, if_neg f3]; rfl)
               · unfold w_stB
                 first
                   | (have f1 := h12; rw [if_pos f1]; exact hM)
                   | (have f1 := h12; have f2 := h23; rw [if_neg f1, if_pos f2]; exact hM)
                   | (have f1 := h12; have f2 := h23; have f3 := h40; rw [if_neg f1, if_neg f2, if_pos f3]; exact hM)
                   | (have f1 := h12; have f2 := h23; have f3 := h40; rw [if_neg f1, if_neg f2, if_neg f3]; exact hM))
  · refine pv_aload_0 (pc := 15) dX12_stepping_15 ?_
    refine pv_bipush (pc := 16) (v := 30) dX12_stepping_16 (by decide) ?_
    refine pv_callVq (pc := 18) dX12_stepping_18 mgX12_body lv_X12_396_12 (by decide) (sx_61 hT) (by omega) (c_X12_body hT hR hM ⟨hr.1, by have := hr.2; omega⟩) rfl rfl (by decide) (fun v t I L Rf hq => ?_)
    obtain ⟨rfl, rfl, rfl, rfl, hM, hX2⟩ := hq
    have hX := hX.tr hX2
    have hr := body_n (b := 30) hr (by omega)
    have hW := body_wf (b := 30) hW
    refine pv_iload_3 (pc := 21) dX12_stepping_21 ?_
    refine pv_iconst (pc := 22) (v := 3) dX12_stepping_22 (by decide) ?_
    refine pv_icmp_ne (pc := 23) (tgt := 37) dX12_stepping_23 (by decide) (fun h23 => ?_) (fun h23 => ?_)
    · refine pv_iload_3 (pc := 37) dX12_stepping_37 ?_
      refine pv_bipush (pc := 38) (v := 6) dX12_stepping_38 (by decide) ?_
      refine pv_icmp_ne (pc := 40) (tgt := 59) dX12_stepping_40 (by decide) (fun h40 => ?_) (fun h40 => ?_)
      · refine pv_aload_0 (pc := 59) dX12_stepping_59 ?_
        refine pv_bipush (pc := 60) (v := 11) dX12_stepping_60 (by decide) ?_
        refine pv_callVq (pc := 62) dX12_stepping_62 mgX12_body lv_X12_396_12 (by decide) (sx_61 hT) (by omega) (c_X12_body hT hR hM ⟨hr.1, by have := hr.2; omega⟩) rfl rfl (by decide) (fun v t I L Rf hq => ?_)
        obtain ⟨rfl, rfl, rfl, rfl, hM, hX2⟩ := hq
        have hX := hX.tr hX2
        have hr := body_n (b := 11) hr (by omega)
        have hW := body_wf (b := 11) hW
        refine pv_aload_0 (pc := 65) dX12_stepping_65 ?_
        refine pv_iload_1 (pc := 66) dX12_stepping_66 ?_
        refine pv_iload_4 (pc := 67) dX12_stepping_67 ?_
        refine pv_callVq (pc := 69) dX12_stepping_69 mgX12_calling lv_X12_399_12 (by decide) (sx_61 hT) (by omega) (c_X12_calling hT hR hW hM hF hr (by omega) (by omega)) rfl rfl (by decide) (fun v t I L Rf hq => ?_)
        obtain ⟨rfl, rfl, rfl, rfl, hM, hX2⟩ := hq
        have hX := hX.tr hX2
        refine pv_iconst (pc := 72) (v := 2) dX12_stepping_72 (by decide) ?_
        refine pv_imul (pc := 73) dX12_stepping_73 ?_
        refine pv_istore_5 (pc := 74) dX12_stepping_74 (by decide) rfl ?_
        refine pv_iload_3 (pc := 76) dX12_stepping_76 ?_
        refine pv_iconst (pc := 77) (v := 2) dX12_stepping_77 (by decide) ?_
        refine pv_icmp_ne (pc := 78) (tgt := 88) dX12_stepping_78 (by decide) (fun h78 => ?_) (fun h78 => ?_)
        · refine pv_iload_5 (pc := 88) dX12_stepping_88 ?_
          refine pv_iret (pc := 90) dX12_stepping_90 rfl rfl ?_
          first
            | (exfalso; first | (have f1 := h12; have f2 := h23; rw [f1] at f2; exact absurd f2 (by decide)) | (have f1 := h12; have f2 := h40; rw [f1] at f2; exact absurd f2 (by decide)) | (have f1 := h23; have f2 := h40; rw [f1] at f2; exact absurd f2 (by decide)) | exact h12 h78 | exact h78 h12)
            | (refine ⟨?_, rfl, rfl, rfl, ?_, hX⟩
               · unfold w_stV
                 first
                   | (have f1 := h12; rw [if_pos f1]; rfl)
                   | (have f1 := h12; have f2 := h23; rw [if_neg f1, if_pos f2]; rfl)
                   | (have f1 := h12; have f2 := h23; have f3 := h40; rw [if_neg f1, if_neg f2, if_pos f3]; rfl)
                   | (have f1 := h12; have f2 := h23; have f3 := h40; rw [if_neg f1, if_neg f2, if_neg f3]; rfl)
               · unfold w_stB
                 first
                   | (have f1 := h12; rw [if_pos f1]; exact hM)
                   | (have f1 := h12; have f2 := h23; rw [if_neg f1, if_pos f2]; exact hM)
                   | (have f1 := h12; have f2 := h23; have f3 := h40; rw [if_neg f1, if_neg f2, if_pos f3]; exact hM)
                   | (have f1 := h12; have f2 := h23; have f3 := h40; rw [if_neg f1, if_neg f2, if_neg f3]; exact hM))
        · refine pv_iload_5 (pc := 81) dX12_stepping_81 ?_
          refine pv_iconst (pc := 83) (v := 3) dX12_stepping_83 (by decide) ?_
          refine pv_imul (pc := 84) dX12_stepping_84 ?_
          refine pv_goto (pc := 85) (tgt := 90) dX12_stepping_85 (by decide) ?_
          refine pv_iret (pc := 90) dX12_stepping_90 rfl rfl ?_
          first
            | (exfalso; first | (have f1 := h12; have f2 := h23; rw [f1] at f2; exact absurd f2 (by decide)) | (have f1 := h12; have f2 := h40; rw [f1] at f2; exact absurd f2 (by decide)) | (have f1 := h23; have f2 := h40; rw [f1] at f2; exact absurd f2 (by decide)) | exact h12 h78 | exact h78 h12)
            | (refine ⟨?_, rfl, rfl, rfl, ?_, hX⟩
               · unfold w_stV
                 first
                   | (have f1 := h12; rw [if_pos f1]; rfl)
                   | (have f1 := h12; have f2 := h23; rw [if_neg f1, if_pos f2]; rfl)
                   | (have f1 := h12; have f2 := h23; have f3 := h40; rw [if_neg f1, if_neg f2, if_pos f3]; rfl)
                   | (have f1 := h12; have f2 := h23; have f3 := h40; rw [if_neg f1, if_neg f2, if_neg f3]; rfl)
               · unfold w_stB
                 first
                   | (have f1 := h12; rw [if_pos f1]; exact hM)
                   | (have f1 := h12; have f2 := h23; rw [if_neg f1, if_pos f2]; exact hM)
                   | (have f1 := h12; have f2 := h23; have f3 := h40; rw [if_neg f1, if_neg f2, if_pos f3]; exact hM)
                   | (have f1 := h12; have f2 := h23; have f3 := h40; rw [if_neg f1, if_neg f2, if_neg f3]; exact hM))
      · refine pv_aload_0 (pc := 43) dX12_stepping_43 ?_
        refine pv_bipush (pc := 44) (v := 71) dX12_stepping_44 (by decide) ?_
        refine pv_callVq (pc := 46) dX12_stepping_46 mgX12_body lv_X12_396_12 (by decide) (sx_61 hT) (by omega) (c_X12_body hT hR hM ⟨hr.1, by have := hr.2; omega⟩) rfl rfl (by decide) (fun v t I L Rf hq => ?_)
        obtain ⟨rfl, rfl, rfl, rfl, hM, hX2⟩ := hq
        have hX := hX.tr hX2
        have hr := body_n (b := 71) hr (by omega)
        have hW := body_wf (b := 71) hW
        refine pv_iload_2 (pc := 49) dX12_stepping_49 ?_
        refine pv_aload_0 (pc := 50) dX12_stepping_50 ?_
        refine pv_getR (pc := 51) dX12_stepping_51 fg_X12_27_12 rfl (by decide) (sx_61 hT) (rx_61_9 hR) ?_
        refine pv_iload_1 (pc := 54) dX12_stepping_54 ?_
        refine pv_ialoadj (pc := 55) dX12_stepping_55 (sx_64 hT) rfl h8 ?_
        refine pv_topv2 (y := J 2 f.toNatClampNeg) (hM.2.1 _ hn).2.1 ?_
        refine pv_isub (pc := 56) dX12_stepping_56 ?_
        refine pv_istore_4 (pc := 57) dX12_stepping_57 (by decide) rfl ?_
        refine pv_aload_0 (pc := 59) dX12_stepping_59 ?_
        refine pv_bipush (pc := 60) (v := 11) dX12_stepping_60 (by decide) ?_
        refine pv_callVq (pc := 62) dX12_stepping_62 mgX12_body lv_X12_396_12 (by decide) (sx_61 hT) (by omega) (c_X12_body hT hR hM ⟨hr.1, by have := hr.2; omega⟩) rfl rfl (by decide) (fun v t I L Rf hq => ?_)
        obtain ⟨rfl, rfl, rfl, rfl, hM, hX2⟩ := hq
        have hX := hX.tr hX2
        have hr := body_n (b := 11) hr (by omega)
        have hW := body_wf (b := 11) hW
        refine pv_aload_0 (pc := 65) dX12_stepping_65 ?_
        refine pv_iload_1 (pc := 66) dX12_stepping_66 ?_
        refine pv_iload_4 (pc := 67) dX12_stepping_67 ?_
        refine pv_callVq (pc := 69) dX12_stepping_69 mgX12_calling lv_X12_399_12 (by decide) (sx_61 hT) (by omega) (c_X12_calling hT hR hW hM hF hr (by omega) (by omega)) rfl rfl (by decide) (fun v t I L Rf hq => ?_)
        obtain ⟨rfl, rfl, rfl, rfl, hM, hX2⟩ := hq
        have hX := hX.tr hX2
        refine pv_iconst (pc := 72) (v := 2) dX12_stepping_72 (by decide) ?_
        refine pv_imul (pc := 73) dX12_stepping_73 ?_
        refine pv_istore_5 (pc := 74) dX12_stepping_74 (by decide) rfl ?_
        refine pv_iload_3 (pc := 76) dX12_stepping_76 ?_
        refine pv_iconst (pc := 77) (v := 2) dX12_stepping_77 (by decide) ?_
        refine pv_icmp_ne (pc := 78) (tgt := 88) dX12_stepping_78 (by decide) (fun h78 => ?_) (fun h78 => ?_)
        · refine pv_iload_5 (pc := 88) dX12_stepping_88 ?_
          refine pv_iret (pc := 90) dX12_stepping_90 rfl rfl ?_
          first
            | (exfalso; first | (have f1 := h12; have f2 := h23; rw [f1] at f2; exact absurd f2 (by decide)) | (have f1 := h12; have f2 := h40; rw [f1] at f2; exact absurd f2 (by decide)) | (have f1 := h23; have f2 := h40; rw [f1] at f2; exact absurd f2 (by decide)) | exact h12 h78 | exact h78 h12)
            | (refine ⟨?_, rfl, rfl, rfl, ?_, hX⟩
               · unfold w_stV
                 first
                   | (have f1 := h12; rw [if_pos f1]; rfl)
                   | (have f1 := h12; have f2 := h23; rw [if_neg f1, if_pos f2]; rfl)
                   | (have f1 := h12; have f2 := h23; have f3 := h40; rw [if_neg f1, if_neg f2, if_pos f3]; rfl)
                   | (have f1 := h12; have f2 := h23; have f3 := h40; rw [if_neg f1, if_neg f2, if_neg f3]; rfl)
               · unfold w_stB
                 first
                   | (have f1 := h12; rw [if_pos f1]; exact hM)
                   | (have f1 := h12; have f2 := h23; rw [if_neg f1, if_pos f2]; exact hM)
                   | (have f1 := h12; have f2 := h23; have f3 := h40; rw [if_neg f1, if_neg f2, if_pos f3]; exact hM)
                   | (have f1 := h12; have f2 := h23; have f3 := h40; rw [if_neg f1, if_neg f2, if_neg f3]; exact hM))
        · refine pv_iload_5 (pc := 81) dX12_stepping_81 ?_
          refine pv_iconst (pc := 83) (v := 3) dX12_stepping_83 (by decide) ?_
          refine pv_imul (pc := 84) dX12_stepping_84 ?_
          refine pv_goto (pc := 85) (tgt := 90) dX12_stepping_85 (by decide) ?_
          refine pv_iret (pc := 90) dX12_stepping_90 rfl rfl ?_
          first
            | (exfalso; first | (have f1 := h12; have f2 := h23; rw [f1] at f2; exact absurd f2 (by decide)) | (have f1 := h12; have f2 := h40; rw [f1] at f2; exact absurd f2 (by decide)) | (have f1 := h23; have f2 := h40; rw [f1] at f2; exact absurd f2 (by decide)) | exact h12 h78 | exact h78 h12)
            | (refine ⟨?_, rfl, rfl, rfl, ?_, hX⟩
               · unfold w_stV
                 first
                   | (have f1 := h12; rw [if_pos f1]; rfl)
                   | (have f1 := h12; have f2 := h23; rw [if_neg f1, if_pos f2]; rfl)
                   | (have f1 := h12; have f2 := h23; have f3 := h40; rw [if_neg f1, if_neg f2, if_pos f3]; rfl)
                   | (have f1 := h12; have f2 := h23; have f3 := h40; rw [if_neg f1, if_neg f2, if_neg f3]; rfl)
               · unfold w_stB
                 first
                   | (have f1 := h12; rw [if_pos f1]; exact hM)
                   | (have f1 := h12; have f2 := h23; rw [if_neg f1, if_pos f2]; exact hM)
                   | (have f1 := h12; have f2 := h23; have f3 := h40; rw [if_neg f1, if_neg f2, if_pos f3]; exact hM)
                   | (have f1 := h12; have f2 := h23; have f3 := h40; rw [if_neg f1, if_neg f2, if_neg f3]; exact hM))
    · refine pv_aload_0 (pc := 26) dX12_stepping_26 ?_
      refine pv_bipush (pc := 27) (v := 40) dX12_stepping_27 (by decide) ?_
      refine pv_callVq (pc := 29) dX12_stepping_29 mgX12_body lv_X12_396_12 (by decide) (sx_61 hT) (by omega) (c_X12_body hT hR hM ⟨hr.1, by have := hr.2; omega⟩) rfl rfl (by decide) (fun v t I L Rf hq => ?_)
      obtain ⟨rfl, rfl, rfl, rfl, hM, hX2⟩ := hq
      have hX := hX.tr hX2
      have hr := body_n (b := 40) hr (by omega)
      have hW := body_wf (b := 40) hW
      refine pv_iload_2 (pc := 32) dX12_stepping_32 ?_
      refine pv_iconst (pc := 33) (v := 1) dX12_stepping_33 (by decide) ?_
      refine pv_iadd (pc := 34) dX12_stepping_34 ?_
      refine pv_istore_4 (pc := 35) dX12_stepping_35 (by decide) rfl ?_
      refine pv_iload_3 (pc := 37) dX12_stepping_37 ?_
      refine pv_bipush (pc := 38) (v := 6) dX12_stepping_38 (by decide) ?_
      refine pv_icmp_ne (pc := 40) (tgt := 59) dX12_stepping_40 (by decide) (fun h40 => ?_) (fun h40 => ?_)
      · refine pv_aload_0 (pc := 59) dX12_stepping_59 ?_
        refine pv_bipush (pc := 60) (v := 11) dX12_stepping_60 (by decide) ?_
        refine pv_callVq (pc := 62) dX12_stepping_62 mgX12_body lv_X12_396_12 (by decide) (sx_61 hT) (by omega) (c_X12_body hT hR hM ⟨hr.1, by have := hr.2; omega⟩) rfl rfl (by decide) (fun v t I L Rf hq => ?_)
        obtain ⟨rfl, rfl, rfl, rfl, hM, hX2⟩ := hq
        have hX := hX.tr hX2
        have hr := body_n (b := 11) hr (by omega)
        have hW := body_wf (b := 11) hW
        refine pv_aload_0 (pc := 65) dX12_stepping_65 ?_
        refine pv_iload_1 (pc := 66) dX12_stepping_66 ?_
        refine pv_iload_4 (pc := 67) dX12_stepping_67 ?_
        refine pv_callVq (pc := 69) dX12_stepping_69 mgX12_calling lv_X12_399_12 (by decide) (sx_61 hT) (by omega) (c_X12_calling hT hR hW hM hF hr (by omega) (by omega)) rfl rfl (by decide) (fun v t I L Rf hq => ?_)
        obtain ⟨rfl, rfl, rfl, rfl, hM, hX2⟩ := hq
        have hX := hX.tr hX2
        refine pv_iconst (pc := 72) (v := 2) dX12_stepping_72 (by decide) ?_
        refine pv_imul (pc := 73) dX12_stepping_73 ?_
        refine pv_istore_5 (pc := 74) dX12_stepping_74 (by decide) rfl ?_
        refine pv_iload_3 (pc := 76) dX12_stepping_76 ?_
        refine pv_iconst (pc := 77) (v := 2) dX12_stepping_77 (by decide) ?_
        refine pv_icmp_ne (pc := 78) (tgt := 88) dX12_stepping_78 (by decide) (fun h78 => ?_) (fun h78 => ?_)
        · refine pv_iload_5 (pc := 88) dX12_stepping_88 ?_
          refine pv_iret (pc := 90) dX12_stepping_90 rfl rfl ?_
          first
            | (exfalso; first | (have f1 := h12; have f2 := h23; rw [f1] at f2; exact absurd f2 (by decide)) | (have f1 := h12; have f2 := h40; rw [f1] at f2; exact absurd f2 (by decide)) | (have f1 := h23; have f2 := h40; rw [f1] at f2; exact absurd f2 (by decide)) | exact h12 h78 | exact h78 h12)
            | (refine ⟨?_, rfl, rfl, rfl, ?_, hX⟩
               · unfold w_stV
                 first
                   | (have f1 := h12; rw [if_pos f1]; rfl)
                   | (have f1 := h12; have f2 := h23; rw [if_neg f1, if_pos f2]; rfl)
                   | (have f1 := h12; have f2 := h23; have f3 := h40; rw [if_neg f1, if_neg f2, if_pos f3]; rfl)
                   | (have f1 := h12; have f2 := h23; have f3 := h40; rw [if_neg f1, if_neg f2, if_neg f3]; rfl)
               · unfold w_stB
                 first
                   | (have f1 := h12; rw [if_pos f1]; exact hM)
                   | (have f1 := h12; have f2 := h23; rw [if_neg f1, if_pos f2]; exact hM)
                   | (have f1 := h12; have f2 := h23; have f3 := h40; rw [if_neg f1, if_neg f2, if_pos f3]; exact hM)
                   | (have f1 := h12; have f2 := h23; have f3 := h40; rw [if_neg f1, if_neg f2, if_neg f3]; exact hM))
        · refine pv_iload_5 (pc := 81) dX12_stepping_81 ?_
          refine pv_iconst (pc := 83) (v := 3) dX12_stepping_83 (by decide) ?_
          refine pv_imul (pc := 84) dX12_stepping_84 ?_
          refine pv_goto (pc := 85) (tgt := 90) dX12_stepping_85 (by decide) ?_
          refine pv_iret (pc := 90) dX12_stepping_90 rfl rfl ?_
          first
            | (exfalso; first | (have f1 := h12; have f2 := h23; rw [f1] at f2; exact absurd f2 (by decide)) | (have f1 := h12; have f2 := h40; rw [f1] at f2; exact absurd f2 (by decide)) | (have f1 := h23; have f2 := h40; rw [f1] at f2; exact absurd f2 (by decide)) | exact h12 h78 | exact h78 h12)
            | (refine ⟨?_, rfl, rfl, rfl, ?_, hX⟩
               · unfold w_stV
                 first
                   | (have f1 := h12; rw [if_pos f1]; rfl)
                   | (have f1 := h12; have f2 := h23; rw [if_neg f1, if_pos f2]; rfl)
                   | (have f1 := h12; have f2 := h23; have f3 := h40; rw [if_neg f1, if_neg f2, if_pos f3]; rfl)
                   | (have f1 := h12; have f2 := h23; have f3 := h40; rw [if_neg f1, if_neg f2, if_neg f3]; rfl)
               · unfold w_stB
                 first
                   | (have f1 := h12; rw [if_pos f1]; exact hM)
                   | (have f1 := h12; have f2 := h23; rw [if_neg f1, if_pos f2]; exact hM)
                   | (have f1 := h12; have f2 := h23; have f3 := h40; rw [if_neg f1, if_neg f2, if_pos f3]; exact hM)
                   | (have f1 := h12; have f2 := h23; have f3 := h40; rw [if_neg f1, if_neg f2, if_neg f3]; exact hM))
      · refine pv_aload_0 (pc := 43) dX12_stepping_43 ?_
        refine pv_bipush (pc := 44) (v := 71) dX12_stepping_44 (by decide) ?_
        refine pv_callVq (pc := 46) dX12_stepping_46 mgX12_body lv_X12_396_12 (by decide) (sx_61 hT) (by omega) (c_X12_body hT hR hM ⟨hr.1, by have := hr.2; omega⟩) rfl rfl (by decide) (fun v t I L Rf hq => ?_)
        obtain ⟨rfl, rfl, rfl, rfl, hM, hX2⟩ := hq
        have hX := hX.tr hX2
        have hr := body_n (b := 71) hr (by omega)
        have hW := body_wf (b := 71) hW
        refine pv_iload_2 (pc := 49) dX12_stepping_49 ?_
        refine pv_aload_0 (pc := 50) dX12_stepping_50 ?_
        refine pv_getR (pc := 51) dX12_stepping_51 fg_X12_27_12 rfl (by decide) (sx_61 hT) (rx_61_9 hR) ?_
        refine pv_iload_1 (pc := 54) dX12_stepping_54 ?_
        refine pv_ialoadj (pc := 55) dX12_stepping_55 (sx_64 hT) rfl h8 ?_
        refine pv_topv2 (y := J 2 f.toNatClampNeg) (hM.2.1 _ hn).2.1 ?_
        refine pv_isub (pc := 56) dX12_stepping_56 ?_
        refine pv_istore_4 (pc := 57) dX12_stepping_57 (by decide) rfl ?_
        refine pv_aload_0 (pc := 59) dX12_stepping_59 ?_
        refine pv_bipush (pc := 60) (v := 11) dX12_stepping_60 (by decide) ?_
        refine pv_callVq (pc := 62) dX12_stepping_62 mgX12_body lv_X12_396_12 (by decide) (sx_61 hT) (by omega) (c_X12_body hT hR hM ⟨hr.1, by have := hr.2; omega⟩) rfl rfl (by decide) (fun v t I L Rf hq => ?_)
        obtain ⟨rfl, rfl, rfl, rfl, hM, hX2⟩ := hq
        have hX := hX.tr hX2
        have hr := body_n (b := 11) hr (by omega)
        have hW := body_wf (b := 11) hW
        refine pv_aload_0 (pc := 65) dX12_stepping_65 ?_
        refine pv_iload_1 (pc := 66) dX12_stepping_66 ?_
        refine pv_iload_4 (pc := 67) dX12_stepping_67 ?_
        refine pv_callVq (pc := 69) dX12_stepping_69 mgX12_calling lv_X12_399_12 (by decide) (sx_61 hT) (by omega) (c_X12_calling hT hR hW hM hF hr (by omega) (by omega)) rfl rfl (by decide) (fun v t I L Rf hq => ?_)
        obtain ⟨rfl, rfl, rfl, rfl, hM, hX2⟩ := hq
        have hX := hX.tr hX2
        refine pv_iconst (pc := 72) (v := 2) dX12_stepping_72 (by decide) ?_
        refine pv_imul (pc := 73) dX12_stepping_73 ?_
        refine pv_istore_5 (pc := 74) dX12_stepping_74 (by decide) rfl ?_
        refine pv_iload_3 (pc := 76) dX12_stepping_76 ?_
        refine pv_iconst (pc := 77) (v := 2) dX12_stepping_77 (by decide) ?_
        refine pv_icmp_ne (pc := 78) (tgt := 88) dX12_stepping_78 (by decide) (fun h78 => ?_) (fun h78 => ?_)
        · refine pv_iload_5 (pc := 88) dX12_stepping_88 ?_
          refine pv_iret (pc := 90) dX12_stepping_90 rfl rfl ?_
          first
            | (exfalso; first | (have f1 := h12; have f2 := h23; rw [f1] at f2; exact absurd f2 (by decide)) | (have f1 := h12; have f2 := h40; rw [f1] at f2; exact absurd f2 (by decide)) | (have f1 := h23; have f2 := h40; rw [f1] at f2; exact absurd f2 (by decide)) | exact h12 h78 | exact h78 h12)
            | (refine ⟨?_, rfl, rfl, rfl, ?_, hX⟩
               · unfold w_stV
                 first
                   | (have f1 := h12; rw [if_pos f1]; rfl)
                   | (have f1 := h12; have f2 := h23; rw [if_neg f1, if_pos f2]; rfl)
                   | (have f1 := h12; have f2 := h23; have f3 := h40; rw [if_neg f1, if_neg f2, if_pos f3]; rfl)
                   | (have f1 := h12; have f2 := h23; have f3 := h40; rw [if_neg f1, if_neg f2, if_neg f3]; rfl)
               · unfold w_stB
                 first
                   | (have f1 := h12; rw [if_pos f1]; exact hM)
                   | (have f1 := h12; have f2 := h23; rw [if_neg f1, if_pos f2]; exact hM)
                   | (have f1 := h12; have f2 := h23; have f3 := h40; rw [if_neg f1, if_neg f2, if_pos f3]; exact hM)
                   | (have f1 := h12; have f2 := h23; have f3 := h40; rw [if_neg f1, if_neg f2, if_neg f3]; exact hM))
        · refine pv_iload_5 (pc := 81) dX12_stepping_81 ?_
          refine pv_iconst (pc := 83) (v := 3) dX12_stepping_83 (by decide) ?_
          refine pv_imul (pc := 84) dX12_stepping_84 ?_
          refine pv_goto (pc := 85) (tgt := 90) dX12_stepping_85 (by decide) ?_
          refine pv_iret (pc := 90) dX12_stepping_90 rfl rfl ?_
          first
            | (exfalso; first | (have f1 := h12; have f2 := h23; rw [f1] at f2; exact absurd f2 (by decide)) | (have f1 := h12; have f2 := h40; rw [f1] at f2; exact absurd f2 (by decide)) | (have f1 := h23; have f2 := h40; rw [f1] at f2; exact absurd f2 (by decide)) | exact h12 h78 | exact h78 h12)
            | (refine ⟨?_, rfl, rfl, rfl, ?_, hX⟩
               · unfold w_stV
                 first
                   | (have f1 := h12; rw [if_pos f1]; rfl)
                   | (have f1 := h12; have f2 := h23; rw [if_neg f1, if_pos f2]; rfl)
                   | (have f1 := h12; have f2 := h23; have f3 := h40; rw [if_neg f1, if_neg f2, if_pos f3]; rfl)
                   | (have f1 := h12; have f2 := h23; have f3 := h40; rw [if_neg f1, if_neg f2, if_neg f3]; rfl)
               · unfold w_stB
                 first
                   | (have f1 := h12; rw [if_pos f1]; exact hM)
                   | (have f1 := h12; have f2 := h23; rw [if_neg f1, if_pos f2]; exact hM)
                   | (have f1 := h12; have f2 := h23; have f3 := h40; rw [if_neg f1, if_neg f2, if_pos f3]; exact hM)
                   | (have f1 := h12; have f2 := h23; have f3 := h40; rw [if_neg f1, if_neg f2, if_neg f3]; exact hM))

theorem body_n5 {J : pv_I} {k : Int32} {n : Nat} (h : 0 ≤ (J 0 5).toInt ∧ (J 0 5).toInt ≤ n) (hn : n < 70) : 0 ≤ (w_stB J k 0 5).toInt ∧ (w_stB J k 0 5).toInt ≤ (n + 5 : Nat) := by
  unfold w_stB
  refine body_n3 (n := n + 2) (body_n (n := n + 1) ?_ (by omega)) (by omega)
  have up : 0 ≤ (J 0 5).toInt ∧ (J 0 5).toInt ≤ (n + 1 : Nat) := ⟨h.1, by have := h.2; omega⟩
  split
  · exact body_n h (by omega)
  · split
    · exact body_n h (by omega)
    · split
      · exact body_n h (by omega)
      · exact up
theorem w_stB_1 (J : pv_I) (k : Int32) (a j : Nat) (h : ¬ a = 11) (h0 : ¬ (a = 0 ∧ j = 5)) : w_stB J k a j = J a j := by
  have e : ∀ (J : pv_I) (b : Int32), w_body J b a j = J a j := fun J b => by unfold w_body; rw [pv_u_app, if_neg h0, pv_u_app, if_neg (fun q => h q.1)]
  unfold w_stB
  rw [w_calB_1 _ _ _ _ h h0, e]
  split
  · rw [e]
  · split
    · rw [e]
    · split
      · rw [e]
      · rfl
theorem stB_wf {J : pv_I} {K : pv_L} {k : Int32} (h : WF J K) : WF (w_stB J k) K := h.act (fun a j h1 h2 => w_stB_1 J k a j h1 h2)
def w_knT (J : pv_I) (f : Nat) (y x : Int32) : Int32 := if s_isT (J 1 f) = true then -(w_stV J f y x ^^^ w_calV J f y (x - J 2 f)) else w_stV J f y x ^^^ w_calV J f y (x - J 2 f)
def w_knV (J : pv_I) (f : Nat) (y x : Int32) : Int32 := if J 1 f = 3 then w_knT J f y x - y else if J 1 f = 6 then w_knT J f y x ^^^ 5 else w_knT J f y x
def w_knC (J : pv_I) (k : Int32) : pv_I := if k = 3 then w_body J 41 else if k = 6 then w_body J 70 else J
def w_knB (J : pv_I) (k : Int32) : pv_I := w_calB (w_stB (w_body (if s_isT k = true then w_body (w_knC J k) 50 else w_knC J k) 12) k) k
theorem w_stV_b (J : pv_I) (b : Int32) (f : Nat) (y x : Int32) : w_stV (w_body J b) f y x = w_stV J f y x := rfl
theorem w_calV_s (J : pv_I) (k : Int32) (f : Nat) (y x : Int32) : w_calV (w_stB J k) f y x = w_calV J f y x := by
  unfold w_calV
  rw [w_stB_1 J k 1 f (by decide) (by omega), w_stB_1 J k 2 f (by decide) (by omega)]
set_option maxRecDepth 100000 in
set_option maxHeartbeats 4000000 in
theorem c_X12_knotting {G : pv_G} {d : Nat} {J : pv_I} {K : pv_L} {f x : Int32} {n : Nat} {t : pv_T} {I : pv_I} {L : pv_L} {Rf : pv_R} (hT : sh_ok t) (hR : rf_ok Rf) (hW : WF J K) (hM : RM J K I L) (hF : w_isF J f) (hr : 0 ≤ (J 0 5).toInt ∧ (J 0 5).toInt ≤ n) (hn9 : n < 50) (hd : 3 ≤ d) : pv_Mt G mX12_knotting d 0 0 [.ref 61, .int f, .int x] t I L Rf (qB (w_knB J (J 1 f.toNatClampNeg)) K (some (.int (w_knV J f.toNatClampNeg f x))) t I L Rf) := by
  refine pv_mt mgX12_knotting.2.2.2.2.2 [.ref 61, .int f, .int x, .retAddr 0, .retAddr 0] rfl (Nat.le_of_ble_eq_true rfl) ?_
  have hX : kX I L I L := kX.rf
  obtain ⟨h8, hn⟩ := hF.nat hW
  refine pv_aload_0 (pc := 0) dX12_knotting_0 ?_
  refine pv_getR (pc := 1) dX12_knotting_1 fg_X12_24_12 rfl (by decide) (sx_61 hT) (rx_61_8 hR) ?_
  refine pv_iload_1 (pc := 4) dX12_knotting_4 ?_
  refine pv_ialoadj (pc := 5) dX12_knotting_5 (sx_63 hT) rfl h8 ?_
  refine pv_topv (y := J 1 f.toNatClampNeg) (hM.2.1 _ hn).1 ?_
  refine pv_istore_3 (pc := 6) dX12_knotting_6 (by decide) rfl ?_
  refine pv_iload_3 (pc := 7) dX12_knotting_7 ?_
  refine pv_iconst (pc := 8) (v := 3) dX12_knotting_8 (by decide) ?_
  refine pv_icmp_ne (pc := 9) (tgt := 18) dX12_knotting_9 (by decide) (fun h9 => ?_) (fun h9 => ?_)
  · refine pv_iload_3 (pc := 18) dX12_knotting_18 ?_
    refine pv_bipush (pc := 19) (v := 6) dX12_knotting_19 (by decide) ?_
    refine pv_icmp_ne (pc := 21) (tgt := 30) dX12_knotting_21 (by decide) (fun h21 => ?_) (fun h21 => ?_)
    · refine pv_aload_0 (pc := 30) dX12_knotting_30 ?_
      refine pv_iload_3 (pc := 31) dX12_knotting_31 ?_
      refine pv_callV1 (pc := 32) dX12_knotting_32 mgX12_isTurn lv_X12_125_12 (by decide) (sx_61 hT) (by omega) (c_X12_isTurn ) rfl rfl (by decide) ?_
      refine pv_if_eq (pc := 35) (tgt := 44) dX12_knotting_35 (by decide) (fun h35 => ?_) (fun h35 => ?_)
      · refine pv_aload_0 (pc := 44) dX12_knotting_44 ?_
        refine pv_bipush (pc := 45) (v := 12) dX12_knotting_45 (by decide) ?_
        refine pv_callVq (pc := 47) dX12_knotting_47 mgX12_body lv_X12_396_12 (by decide) (sx_61 hT) (by omega) (c_X12_body hT hR hM ⟨hr.1, by have := hr.2; omega⟩) rfl rfl (by decide) (fun v t I L Rf hq => ?_)
        obtain ⟨rfl, rfl, rfl, rfl, hM, hX2⟩ := hq
        have hX := hX.tr hX2
        have hr := body_n (b := 12) hr (by omega)
        have hW := body_wf (b := 12) hW
        refine pv_aload_0 (pc := 50) dX12_knotting_50 ?_
        refine pv_iload_1 (pc := 51) dX12_knotting_51 ?_
        refine pv_iload_2 (pc := 52) dX12_knotting_52 ?_
        refine pv_callVq (pc := 53) dX12_knotting_53 mgX12_stepping lv_X12_402_12 (by decide) (sx_61 hT) (by omega) (c_X12_stepping hT hR hW hM hF hr (by omega) (by omega)) rfl rfl (by decide) (fun v t I L Rf hq => ?_)
        obtain ⟨rfl, rfl, rfl, rfl, hM, hX2⟩ := hq
        have hX := hX.tr hX2
        have hr := body_n5 (k := J 1 f.toNatClampNeg) hr (by omega)
        have hW := stB_wf (k := J 1 f.toNatClampNeg) hW
        refine pv_istore_4 (pc := 56) dX12_knotting_56 (by decide) rfl ?_
        refine pv_iload_4 (pc := 58) dX12_knotting_58 ?_
        refine pv_aload_0 (pc := 60) dX12_knotting_60 ?_
        refine pv_iload_1 (pc := 61) dX12_knotting_61 ?_
        refine pv_iload_2 (pc := 62) dX12_knotting_62 ?_
        refine pv_aload_0 (pc := 63) dX12_knotting_63 ?_
        refine pv_getR (pc := 64) dX12_knotting_64 fg_X12_27_12 rfl (by decide) (sx_61 hT) (rx_61_9 hR) ?_
        refine pv_iload_1 (pc := 67) dX12_knotting_67 ?_
        refine pv_ialoadj (pc := 68) dX12_knotting_68 (sx_64 hT) rfl h8 ?_
        refine pv_topv2 (y := J 2 f.toNatClampNeg) (by have e := (hM.2.1 f.toNatClampNeg (by rw [w_stB_1 _ _ 0 0 (by decide) (by decide)]; exact hn)).2.1; rw [w_stB_1 _ _ 2 _ (by decide) (by omega)] at e; exact e) ?_
        refine pv_isub (pc := 69) dX12_knotting_69 ?_
        refine pv_callVq (pc := 70) dX12_knotting_70 mgX12_calling lv_X12_399_12 (by decide) (sx_61 hT) (by omega) (c_X12_calling hT hR hW hM (by unfold w_isF; rw [w_stB_1 _ _ 0 0 (by decide) (by decide)]; exact hF) hr (by omega) (by omega)) rfl rfl (Nat.le_of_ble_eq_true rfl) (fun v t I L Rf hq => ?_)
        obtain ⟨rfl, rfl, rfl, rfl, hM, hX2⟩ := hq
        have hX := hX.tr hX2
        rw [w_calV_s]
        rw [w_stB_1 _ _ 1 _ (by decide) (by omega)] at hM
        refine pv_ixor (pc := 73) dX12_knotting_73 ?_
        refine pv_istore_4 (pc := 74) dX12_knotting_74 (by decide) rfl ?_
        refine pv_aload_0 (pc := 76) dX12_knotting_76 ?_
        refine pv_iload_3 (pc := 77) dX12_knotting_77 ?_
        refine pv_callV1 (pc := 78) dX12_knotting_78 mgX12_isTurn lv_X12_125_12 (by decide) (sx_61 hT) (by omega) (c_X12_isTurn ) rfl rfl (by decide) ?_
        refine pv_if_eq (pc := 81) (tgt := 89) dX12_knotting_81 (by decide) (fun h81 => ?_) (fun h81 => ?_)
        · refine pv_iload_3 (pc := 89) dX12_knotting_89 ?_
          refine pv_iconst (pc := 90) (v := 3) dX12_knotting_90 (by decide) ?_
          refine pv_icmp_ne (pc := 91) (tgt := 101) dX12_knotting_91 (by decide) (fun h91 => ?_) (fun h91 => ?_)
          · refine pv_iload_3 (pc := 101) dX12_knotting_101 ?_
            refine pv_bipush (pc := 102) (v := 6) dX12_knotting_102 (by decide) ?_
            refine pv_icmp_ne (pc := 104) (tgt := 114) dX12_knotting_104 (by decide) (fun h104 => ?_) (fun h104 => ?_)
            · refine pv_iload_4 (pc := 114) dX12_knotting_114 ?_
              refine pv_iret (pc := 116) dX12_knotting_116 rfl rfl ?_
              first
                | (exfalso; first | (have f1 := h9; have f2 := h21; rw [f1] at f2; exact absurd f2 (by decide)) | exact h9 h91 | exact h91 h9 | exact h21 h104 | exact h104 h21 | (have f1 := h35; have f2 := h81; exact f1 f2) | (have f1 := h35; have f2 := h81; exact f2 f1) | (have f1 := h9; have f2 := h104; rw [f1] at f2; exact absurd f2 (by decide)) | (have f1 := h21; have f2 := h91; rw [f1] at f2; exact absurd f2 (by decide)))
                | (refine ⟨?_, rfl, rfl, rfl, ?_, hX⟩
                   · unfold w_knV
                     first
                       | (have f1 := h9; rw [if_pos f1]; unfold w_knT; (first | (have g1 := (pv_b_n0 _).mp h35; rw [if_pos g1]; rfl) | (have g1 := (pv_b_0 _).mp h35; rw [if_neg (by rw [g1]; decide)]; rfl)))
                       | (have f1 := h9; have f2 := h21; rw [if_neg f1, if_pos f2]; unfold w_knT; (first | (have g1 := (pv_b_n0 _).mp h35; rw [if_pos g1]; rfl) | (have g1 := (pv_b_0 _).mp h35; rw [if_neg (by rw [g1]; decide)]; rfl)))
                       | (have f1 := h9; have f2 := h21; rw [if_neg f1, if_neg f2]; unfold w_knT; (first | (have g1 := (pv_b_n0 _).mp h35; rw [if_pos g1]; rfl) | (have g1 := (pv_b_0 _).mp h35; rw [if_neg (by rw [g1]; decide)]; rfl)))
                   · unfold w_knB
                     first
                       | (have f1 := h9; have eC : w_knC J (J 1 f.toNatClampNeg) = w_body J 41 := by (unfold w_knC; rw [if_pos f1])
                          rw [eC]; (first | (have g1 := (pv_b_n0 _).mp h35; rw [if_pos g1]; exact hM) | (have g1 := (pv_b_0 _).mp h35; rw [if_neg (by rw [g1]; decide)]; exact hM)))
                       | (have f1 := h9; have f2 := h21; have eC : w_knC J (J 1 f.toNatClampNeg) = w_body J 70 := by (unfold w_knC; rw [if_neg f1, if_pos f2])
                          rw [eC]; (first | (have g1 := (pv_b_n0 _).mp h35; rw [if_pos g1]; exact hM) | (have g1 := (pv_b_0 _).mp h35; rw [if_neg (by rw [g1]; decide)]; exact hM)))
                       | (have f1 := h9; have f2 := h21; have eC : w_knC J (J 1 f.toNatClampNeg) = J := by (unfold w_knC; rw [if_neg f1, if_neg f2])
                          rw [eC]; (first | (have g1 := (pv_b_n0 _).mp h35; rw [if_pos g1]; exact hM) | (have g1 := (pv_b_0 _).mp h35; rw [if_neg (by rw [g1]; decide)]; exact hM))))
            · refine pv_iload_4 (pc := 107) dX12_knotting_107 ?_
              refine pv_iconst (pc := 109) (v := 5) dX12_knotting_109 (by decide) ?_
              refine pv_ixor (pc := 110) dX12_knotting_110 ?_
              refine pv_goto (pc := 111) (tgt := 116) dX12_knotting_111 (by decide) ?_
              refine pv_iret (pc := 116) dX12_knotting_116 rfl rfl ?_
              first
                | (exfalso; first | (have f1 := h9; have f2 := h21; rw [f1] at f2; exact absurd f2 (by decide)) | exact h9 h91 | exact h91 h9 | exact h21 h104 | exact h104 h21 | (have f1 := h35; have f2 := h81; exact f1 f2) | (have f1 := h35; have f2 := h81; exact f2 f1) | (have f1 := h9; have f2 := h104; rw [f1] at f2; exact absurd f2 (by decide)) | (have f1 := h21; have f2 := h91; rw [f1] at f2; exact absurd f2 (by decide)))
                | (refine ⟨?_, rfl, rfl, rfl, ?_, hX⟩
                   · unfold w_knV
                     first
                       | (have f1 := h9; rw [if_pos f1]; unfold w_knT; (first | (have g1 := (pv_b_n0 _).mp h35; rw [if_pos g1]; rfl) | (have g1 := (pv_b_0 _).mp h35; rw [if_neg (by rw [g1]; decide)]; rfl)))
                       | (have f1 := h9; have f2 := h21; rw [if_neg f1, if_pos f2]; unfold w_knT; (first | (have g1 := (pv_b_n0 _).mp h35; rw [if_pos g1]; rfl) | (have g1 := (pv_b_0 _).mp h35; rw [if_neg (by rw [g1]; decide)]; rfl)))
                       | (have f1 := h9; have f2 := h21; rw [if_neg f1, if_neg f2]; unfold w_knT; (first | (have g1 := (pv_b_n0 _).mp h35; rw [if_pos g1]; rfl) | (have g1 := (pv_b_0 _).mp h35; rw [if_neg (by rw [g1]; decide)]; rfl)))
                   · unfold w_knB
                     first
                       | (have f1 := h9; have eC : w_knC J (J 1 f.toNatClampNeg) = w_body J 41 := by (unfold w_knC; rw [if_pos f1])
                          rw [eC]; (first | (have g1 := (pv_b_n0 _).mp h35; rw [if_pos g1]; exact hM) | (have g1 := (pv_b_0 _).mp h35; rw [if_neg (by rw [g1]; decide)]; exact hM)))
                       | (have f1 := h9; have f2 := h21; have eC : w_knC J (J 1 f.toNatClampNeg) = w_body J 70 := by (unfold w_knC; rw [if_neg f1, if_pos f2])
                          rw [eC]; (first | (have g1 := (pv_b_n0 _).mp h35; rw [if_pos g1]; exact hM) | (have g1 := (pv_b_0 _).mp h35; rw [if_neg (by rw [g1]; decide)]; exact hM)))
                       | (have f1 := h9; have f2 := h21; have eC : w_knC J (J 1 f.toNatClampNeg) = J := by (unfold w_knC; rw [if_neg f1, if_neg f2])
                          rw [eC]; (first | (have g1 := (pv_b_n0 _).mp h35; rw [if_pos g1]; exact hM) | (have g1 := (pv_b_0 _).mp h35; rw [if_neg (by rw [g1]; decide)]; exact hM))))
          · refine pv_iload_4 (pc := 94) dX12_knotting_94 ?_
            refine pv_iload_1 (pc := 96) dX12_knotting_96 ?_
            refine pv_isub (pc := 97) dX12_knotting_97 ?_
            refine pv_goto (pc := 98) (tgt := 116) dX12_knotting_98 (by decide) ?_
            refine pv_iret (pc := 116) dX12_knotting_116 rfl rfl ?_
            first
              | (exfalso; first | (have f1 := h9; have f2 := h21; rw [f1] at f2; exact absurd f2 (by decide)) | exact h9 h91 | exact h91 h9 | exact h21 h104 | exact h104 h21 | (have f1 := h35; have f2 := h81; exact f1 f2) | (have f1 := h35; have f2 := h81; exact f2 f1) | (have f1 := h9; have f2 := h104; rw [f1] at f2; exact absurd f2 (by decide)) | (have f1 := h21; have f2 := h91; rw [f1] at f2; exact absurd f2 (by decide)))
              | (refine ⟨?_, rfl, rfl, rfl, ?_, hX⟩
                 · unfold w_knV
                   first
                     | (have f1 := h9; rw [if_pos f1]; unfold w_knT; (first | (have g1 := (pv_b_n0 _).mp h35; rw [if_pos g1]; rfl) | (have g1 := (pv_b_0 _).mp h35; rw [if_neg (by rw [g1]; decide)]; rfl)))
                     | (have f1 := h9; have f2 := h21; rw [if_neg f1, if_pos f2]; unfold w_knT; (first | (have g1 := (pv_b_n0 _).mp h35; rw [if_pos g1]; rfl) | (have g1 := (pv_b_0 _).mp h35; rw [if_neg (by rw [g1]; decide)]; rfl)))
                     | (have f1 := h9; have f2 := h21; rw [if_neg f1, if_neg f2]; unfold w_knT; (first | (have g1 := (pv_b_n0 _).mp h35; rw [if_pos g1]; rfl) | (have g1 := (pv_b_0 _).mp h35; rw [if_neg (by rw [g1]; decide)]; rfl)))
                 · unfold w_knB
                   first
                     | (have f1 := h9; have eC : w_knC J (J 1 f.toNatClampNeg) = w_body J 41 := by (unfold w_knC; rw [if_pos f1])
                        rw [eC]; (first | (have g1 := (pv_b_n0 _).mp h35; rw [if_pos g1]; exact hM) | (have g1 := (pv_b_0 _).mp h35; rw [if_neg (by rw [g1]; decide)]; exact hM)))
                     | (have f1 := h9; have f2 := h21; have eC : w_knC J (J 1 f.toNatClampNeg) = w_body J 70 := by (unfold w_knC; rw [if_neg f1, if_pos f2])
                        rw [eC]; (first | (have g1 := (pv_b_n0 _).mp h35; rw [if_pos g1]; exact hM) | (have g1 := (pv_b_0 _).mp h35; rw [if_neg (by rw [g1]; decide)]; exact hM)))
                     | (have f1 := h9; have f2 := h21; have eC : w_knC J (J 1 f.toNatClampNeg) = J := by (unfold w_knC; rw [if_neg f1, if_neg f2])
                        rw [eC]; (first | (have g1 := (pv_b_n0 _).mp h35; rw [if_pos g1]; exact hM) | (have g1 := (pv_b_0 _).mp h35; rw [if_neg (by rw [g1]; decide)]; exact hM))))
        · refine pv_iload_4 (pc := 84) dX12_knotting_84 ?_
          refine pv_ineg (pc := 86) dX12_knotting_86 ?_
          refine pv_istore_4 (pc := 87) dX12_knotting_87 (by decide) rfl ?_
          refine pv_iload_3 (pc := 89) dX12_knotting_89 ?_
          refine pv_iconst (pc := 90) (v := 3) dX12_knotting_90 (by decide) ?_
          refine pv_icmp_ne (pc := 91) (tgt := 101) dX12_knotting_91 (by decide) (fun h91 => ?_) (fun h91 => ?_)
          · refine pv_iload_3 (pc := 101) dX12_knotting_101 ?_
            refine pv_bipush (pc := 102) (v := 6) dX12_knotting_102 (by decide) ?_
            refine pv_icmp_ne (pc := 104) (tgt := 114) dX12_knotting_104 (by decide) (fun h104 => ?_) (fun h104 => ?_)
            · refine pv_iload_4 (pc := 114) dX12_knotting_114 ?_
              refine pv_iret (pc := 116) dX12_knotting_116 rfl rfl ?_
              first
                | (exfalso; first | (have f1 := h9; have f2 := h21; rw [f1] at f2; exact absurd f2 (by decide)) | exact h9 h91 | exact h91 h9 | exact h21 h104 | exact h104 h21 | (have f1 := h35; have f2 := h81; exact f1 f2) | (have f1 := h35; have f2 := h81; exact f2 f1) | (have f1 := h9; have f2 := h104; rw [f1] at f2; exact absurd f2 (by decide)) | (have f1 := h21; have f2 := h91; rw [f1] at f2; exact absurd f2 (by decide)))
                | (refine ⟨?_, rfl, rfl, rfl, ?_, hX⟩
                   · unfold w_knV
                     first
                       | (have f1 := h9; rw [if_pos f1]; unfold w_knT; (first | (have g1 := (pv_b_n0 _).mp h35; rw [if_pos g1]; rfl) | (have g1 := (pv_b_0 _).mp h35; rw [if_neg (by rw [g1]; decide)]; rfl)))
                       | (have f1 := h9; have f2 := h21; rw [if_neg f1, if_pos f2]; unfold w_knT; (first | (have g1 := (pv_b_n0 _).mp h35; rw [if_pos g1]; rfl) | (have g1 := (pv_b_0 _).mp h35; rw [if_neg (by rw [g1]; decide)]; rfl)))
                       | (have f1 := h9; have f2 := h21; rw [if_neg f1, if_neg f2]; unfold w_knT; (first | (have g1 := (pv_b_n0 _).mp h35; rw [if_pos g1]; rfl) | (have g1 := (pv_b_0 _).mp h35; rw [if_neg (by rw [g1]; decide)]; rfl)))
                   · unfold w_knB
                     first
                       | (have f1 := h9; have eC : w_knC J (J 1 f.toNatClampNeg) = w_body J 41 := by (unfold w_knC; rw [if_pos f1])
                          rw [eC]; (first | (have g1 := (pv_b_n0 _).mp h35; rw [if_pos g1]; exact hM) | (have g1 := (pv_b_0 _).mp h35; rw [if_neg (by rw [g1]; decide)]; exact hM)))
                       | (have f1 := h9; have f2 := h21; have eC : w_knC J (J 1 f.toNatClampNeg) = w_body J 70 := by (unfold w_knC; rw [if_neg f1, if_pos f2])
                          rw [eC]; (first | (have g1 := (pv_b_n0 _).mp h35; rw [if_pos g1]; exact hM) | (have g1 := (pv_b_0 _).mp h35; rw [if_neg (by rw [g1]; decide)]; exact hM)))
                       | (have f1 := h9; have f2 := h21; have eC : w_knC J (J 1 f.toNatClampNeg) = J := by (unfold w_knC; rw [if_neg f1, if_neg f2])
                          rw [eC]; (first | (have g1 := (pv_b_n0 _).mp h35; rw [if_pos g1]; exact hM) | (have g1 := (pv_b_0 _).mp h35; rw [if_neg (by rw [g1]; decide)]; exact hM))))
            · refine pv_iload_4 (pc := 107) dX12_knotting_107 ?_
              refine pv_iconst (pc := 109) (v := 5) dX12_knotting_109 (by decide) ?_
              refine pv_ixor (pc := 110) dX12_knotting_110 ?_
              refine pv_goto (pc := 111) (tgt := 116) dX12_knotting_111 (by decide) ?_
              refine pv_iret (pc := 116) dX12_knotting_116 rfl rfl ?_
              first
                | (exfalso; first | (have f1 := h9; have f2 := h21; rw [f1] at f2; exact absurd f2 (by decide)) | exact h9 h91 | exact h91 h9 | exact h21 h104 | exact h104 h21 | (have f1 := h35; have f2 := h81; exact f1 f2) | (have f1 := h35; have f2 := h81; exact f2 f1) | (have f1 := h9; have f2 := h104; rw [f1] at f2; exact absurd f2 (by decide)) | (have f1 := h21; have f2 := h91; rw [f1] at f2; exact absurd f2 (by decide)))
                | (refine ⟨?_, rfl, rfl, rfl, ?_, hX⟩
                   · unfold w_knV
                     first
                       | (have f1 := h9; rw [if_pos f1]; unfold w_knT; (first | (have g1 := (pv_b_n0 _).mp h35; rw [if_pos g1]; rfl) | (have g1 := (pv_b_0 _).mp h35; rw [if_neg (by rw [g1]; decide)]; rfl)))
                       | (have f1 := h9; have f2 := h21; rw [if_neg f1, if_pos f2]; unfold w_knT; (first | (have g1 := (pv_b_n0 _).mp h35; rw [if_pos g1]; rfl) | (have g1 := (pv_b_0 _).mp h35; rw [if_neg (by rw [g1]; decide)]; rfl)))
                       | (have f1 := h9; have f2 := h21; rw [if_neg f1, if_neg f2]; unfold w_knT; (first | (have g1 := (pv_b_n0 _).mp h35; rw [if_pos g1]; rfl) | (have g1 := (pv_b_0 _).mp h35; rw [if_neg (by rw [g1]; decide)]; rfl)))
                   · unfold w_knB
                     first
                       | (have f1 := h9; have eC : w_knC J (J 1 f.toNatClampNeg) = w_body J 41 := by (unfold w_knC; rw [if_pos f1])
                          rw [eC]; (first | (have g1 := (pv_b_n0 _).mp h35; rw [if_pos g1]; exact hM) | (have g1 := (pv_b_0 _).mp h35; rw [if_neg (by rw [g1]; decide)]; exact hM)))
                       | (have f1 := h9; have f2 := h21; have eC : w_knC J (J 1 f.toNatClampNeg) = w_body J 70 := by (unfold w_knC; rw [if_neg f1, if_pos f2])
                          rw [eC]; (first | (have g1 := (pv_b_n0 _).mp h35; rw [if_pos g1]; exact hM) | (have g1 := (pv_b_0 _).mp h35; rw [if_neg (by rw [g1]; decide)]; exact hM)))
                       | (have f1 := h9; have f2 := h21; have eC : w_knC J (J 1 f.toNatClampNeg) = J := by (unfold w_knC; rw [if_neg f1, if_neg f2])
                          rw [eC]; (first | (have g1 := (pv_b_n0 _).mp h35; rw [if_pos g1]; exact hM) | (have g1 := (pv_b_0 _).mp h35; rw [if_neg (by rw [g1]; decide)]; exact hM))))
          · refine pv_iload_4 (pc := 94) dX12_knotting_94 ?_
            refine pv_iload_1 (pc := 96) dX12_knotting_96 ?_
            refine pv_isub (pc := 97) dX12_knotting_97 ?_
            refine pv_goto (pc := 98) (tgt := 116) dX12_knotting_98 (by decide) ?_
            refine pv_iret (pc := 116) dX12_knotting_116 rfl rfl ?_
            first
              | (exfalso; first | (have f1 := h9; have f2 := h21; rw [f1] at f2; exact absurd f2 (by decide)) | exact h9 h91 | exact h91 h9 | exact h21 h104 | exact h104 h21 | (have f1 := h35; have f2 := h81; exact f1 f2) | (have f1 := h35; have f2 := h81; exact f2 f1) | (have f1 := h9; have f2 := h104; rw [f1] at f2; exact absurd f2 (by decide)) | (have f1 := h21; have f2 := h91; rw [f1] at f2; exact absurd f2 (by decide)))
              | (refine ⟨?_, rfl, rfl, rfl, ?_, hX⟩
                 · unfold w_knV
                   first
                     | (have f1 := h9; rw [if_pos f1]; unfold w_knT; (first | (have g1 := (pv_b_n0 _).mp h35; rw [if_pos g1]; rfl) | (have g1 := (pv_b_0 _).mp h35; rw [if_neg (by rw [g1]; decide)]; rfl)))
                     | (have f1 := h9; have f2 := h21; rw [if_neg f1, if_pos f2]; unfold w_knT; (first | (have g1 := (pv_b_n0 _).mp h35; rw [if_pos g1]; rfl) | (have g1 := (pv_b_0 _).mp h35; rw [if_neg (by rw [g1]; decide)]; rfl)))
                     | (have f1 := h9; have f2 := h21; rw [if_neg f1, if_neg f2]; unfold w_knT; (first | (have g1 := (pv_b_n0 _).mp h35; rw [if_pos g1]; rfl) | (have g1 := (pv_b_0 _).mp h35; rw [if_neg (by rw [g1]; decide)]; rfl)))
                 · unfold w_knB
                   first
                     | (have f1 := h9; have eC : w_knC J (J 1 f.toNatClampNeg) = w_body J 41 := by (unfold w_knC; rw [if_pos f1])
                        rw [eC]; (first | (have g1 := (pv_b_n0 _).mp h35; rw [if_pos g1]; exact hM) | (have g1 := (pv_b_0 _).mp h35; rw [if_neg (by rw [g1]; decide)]; exact hM)))
                     | (have f1 := h9; have f2 := h21; have eC : w_knC J (J 1 f.toNatClampNeg) = w_body J 70 := by (unfold w_knC; rw [if_neg f1, if_pos f2])
                        rw [eC]; (first | (have g1 := (pv_b_n0 _).mp h35; rw [if_pos g1]; exact hM) | (have g1 := (pv_b_0 _).mp h35; rw [if_neg (by rw [g1]; decide)]; exact hM)))
                     | (have f1 := h9; have f2 := h21; have eC : w_knC J (J 1 f.toNatClampNeg) = J := by (unfold w_knC; rw [if_neg f1, if_neg f2])
                        rw [eC]; (first | (have g1 := (pv_b_n0 _).mp h35; rw [if_pos g1]; exact hM) | (have g1 := (pv_b_0 _).mp h35; rw [if_neg (by rw [g1]; decide)]; exact hM))))
      · refine pv_aload_0 (pc := 38) dX12_knotting_38 ?_
        refine pv_bipush (pc := 39) (v := 50) dX12_knotting_39 (by decide) ?_
        refine pv_callVq (pc := 41) dX12_knotting_41 mgX12_body lv_X12_396_12 (by decide) (sx_61 hT) (by omega) (c_X12_body hT hR hM ⟨hr.1, by have := hr.2; omega⟩) rfl rfl (by decide) (fun v t I L Rf hq => ?_)
        obtain ⟨rfl, rfl, rfl, rfl, hM, hX2⟩ := hq
        have hX := hX.tr hX2
        have hr := body_n (b := 50) hr (by omega)
        have hW := body_wf (b := 50) hW
        refine pv_aload_0 (pc := 44) dX12_knotting_44 ?_
        refine pv_bipush (pc := 45) (v := 12) dX12_knotting_45 (by decide) ?_
        refine pv_callVq (pc := 47) dX12_knotting_47 mgX12_body lv_X12_396_12 (by decide) (sx_61 hT) (by omega) (c_X12_body hT hR hM ⟨hr.1, by have := hr.2; omega⟩) rfl rfl (by decide) (fun v t I L Rf hq => ?_)
        obtain ⟨rfl, rfl, rfl, rfl, hM, hX2⟩ := hq
        have hX := hX.tr hX2
        have hr := body_n (b := 12) hr (by omega)
        have hW := body_wf (b := 12) hW
        refine pv_aload_0 (pc := 50) dX12_knotting_50 ?_
        refine pv_iload_1 (pc := 51) dX12_knotting_51 ?_
        refine pv_iload_2 (pc := 52) dX12_knotting_52 ?_
        refine pv_callVq (pc := 53) dX12_knotting_53 mgX12_stepping lv_X12_402_12 (by decide) (sx_61 hT) (by omega) (c_X12_stepping hT hR hW hM hF hr (by omega) (by omega)) rfl rfl (by decide) (fun v t I L Rf hq => ?_)
        obtain ⟨rfl, rfl, rfl, rfl, hM, hX2⟩ := hq
        have hX := hX.tr hX2
        have hr := body_n5 (k := J 1 f.toNatClampNeg) hr (by omega)
        have hW := stB_wf (k := J 1 f.toNatClampNeg) hW
        refine pv_istore_4 (pc := 56) dX12_knotting_56 (by decide) rfl ?_
        refine pv_iload_4 (pc := 58) dX12_knotting_58 ?_
        refine pv_aload_0 (pc := 60) dX12_knotting_60 ?_
        refine pv_iload_1 (pc := 61) dX12_knotting_61 ?_
        refine pv_iload_2 (pc := 62) dX12_knotting_62 ?_
        refine pv_aload_0 (pc := 63) dX12_knotting_63 ?_
        refine pv_getR (pc := 64) dX12_knotting_64 fg_X12_27_12 rfl (by decide) (sx_61 hT) (rx_61_9 hR) ?_
        refine pv_iload_1 (pc := 67) dX12_knotting_67 ?_
        refine pv_ialoadj (pc := 68) dX12_knotting_68 (sx_64 hT) rfl h8 ?_
        refine pv_topv2 (y := J 2 f.toNatClampNeg) (by have e := (hM.2.1 f.toNatClampNeg (by rw [w_stB_1 _ _ 0 0 (by decide) (by decide)]; exact hn)).2.1; rw [w_stB_1 _ _ 2 _ (by decide) (by omega)] at e; exact e) ?_
        refine pv_isub (pc := 69) dX12_knotting_69 ?_
        refine pv_callVq (pc := 70) dX12_knotting_70 mgX12_calling lv_X12_399_12 (by decide) (sx_61 hT) (by omega) (c_X12_calling hT hR hW hM (by unfold w_isF; rw [w_stB_1 _ _ 0 0 (by decide) (by decide)]; exact hF) hr (by omega) (by omega)) rfl rfl (Nat.le_of_ble_eq_true rfl) (fun v t I L Rf hq => ?_)
        obtain ⟨rfl, rfl, rfl, rfl, hM, hX2⟩ := hq
        have hX := hX.tr hX2
        rw [w_calV_s]
        rw [w_stB_1 _ _ 1 _ (by decide) (by omega)] at hM
        refine pv_ixor (pc := 73) dX12_knotting_73 ?_
        refine pv_istore_4 (pc := 74) dX12_knotting_74 (by decide) rfl ?_
        refine pv_aload_0 (pc := 76) dX12_knotting_76 ?_
        refine pv_iload_3 (pc := 77) dX12_knotting_77 ?_
        refine pv_callV1 (pc := 78) dX12_knotting_78 mgX12_isTurn lv_X12_125_12 (by decide) (sx_61 hT) (by omega) (c_X12_isTurn ) rfl rfl (by decide) ?_
        refine pv_if_eq (pc := 81) (tgt := 89) dX12_knotting_81 (by decide) (fun h81 => ?_) (fun h81 => ?_)
        · refine pv_iload_3 (pc := 89) dX12_knotting_89 ?_
          refine pv_iconst (pc := 90) (v := 3) dX12_knotting_90 (by decide) ?_
          refine pv_icmp_ne (pc := 91) (tgt := 101) dX12_knotting_91 (by decide) (fun h91 => ?_) (fun h91 => ?_)
          · refine pv_iload_3 (pc := 101) dX12_knotting_101 ?_
            refine pv_bipush (pc := 102) (v := 6) dX12_knotting_102 (by decide) ?_
            refine pv_icmp_ne (pc := 104) (tgt := 114) dX12_knotting_104 (by decide) (fun h104 => ?_) (fun h104 => ?_)
            · refine pv_iload_4 (pc := 114) dX12_knotting_114 ?_
              refine pv_iret (pc := 116) dX12_knotting_116 rfl rfl ?_
              first
                | (exfalso; first | (have f1 := h9; have f2 := h21; rw [f1] at f2; exact absurd f2 (by decide)) | exact h9 h91 | exact h91 h9 | exact h21 h104 | exact h104 h21 | (have f1 := h35; have f2 := h81; exact f1 f2) | (have f1 := h35; have f2 := h81; exact f2 f1) | (have f1 := h9; have f2 := h104; rw [f1] at f2; exact absurd f2 (by decide)) | (have f1 := h21; have f2 := h91; rw [f1] at f2; exact absurd f2 (by decide)))
                | (refine ⟨?_, rfl, rfl, rfl, ?_, hX⟩
                   · unfold w_knV
                     first
                       | (have f1 := h9; rw [if_pos f1]; unfold w_knT; (first | (have g1 := (pv_b_n0 _).mp h35; rw [if_pos g1]; rfl) | (have g1 := (pv_b_0 _).mp h35; rw [if_neg (by rw [g1]; decide)]; rfl)))
                       | (have f1 := h9; have f2 := h21; rw [if_neg f1, if_pos f2]; unfold w_knT; (first | (have g1 := (pv_b_n0 _).mp h35; rw [if_pos g1]; rfl) | (have g1 := (pv_b_0 _).mp h35; rw [if_neg (by rw [g1]; decide)]; rfl)))
                       | (have f1 := h9; have f2 := h21; rw [if_neg f1, if_neg f2]; unfold w_knT; (first | (have g1 := (pv_b_n0 _).mp h35; rw [if_pos g1]; rfl) | (have g1 := (pv_b_0 _).mp h35; rw [if_neg (by rw [g1]; decide)]; rfl)))
                   · unfold w_knB
                     first
                       | (have f1 := h9; have eC : w_knC J (J 1 f.toNatClampNeg) = w_body J 41 := by (unfold w_knC; rw [if_pos f1])
                          rw [eC]; (first | (have g1 := (pv_b_n0 _).mp h35; rw [if_pos g1]; exact hM) | (have g1 := (pv_b_0 _).mp h35; rw [if_neg (by rw [g1]; decide)]; exact hM)))
                       | (have f1 := h9; have f2 := h21; have eC : w_knC J (J 1 f.toNatClampNeg) = w_body J 70 := by (unfold w_knC; rw [if_neg f1, if_pos f2])
                          rw [eC]; (first | (have g1 := (pv_b_n0 _).mp h35; rw [if_pos g1]; exact hM) | (have g1 := (pv_b_0 _).mp h35; rw [if_neg (by rw [g1]; decide)]; exact hM)))
                       | (have f1 := h9; have f2 := h21; have eC : w_knC J (J 1 f.toNatClampNeg) = J := by (unfold w_knC; rw [if_neg f1, if_neg f2])
                          rw [eC]; (first | (have g1 := (pv_b_n0 _).mp h35; rw [if_pos g1]; exact hM) | (have g1 := (pv_b_0 _).mp h35; rw [if_neg (by rw [g1]; decide)]; exact hM))))
            · refine pv_iload_4 (pc := 107) dX12_knotting_107 ?_
              refine pv_iconst (pc := 109) (v := 5) dX12_knotting_109 (by decide) ?_
              refine pv_ixor (pc := 110) dX12_knotting_110 ?_
              refine pv_goto (pc := 111) (tgt := 116) dX12_knotting_111 (by decide) ?_
              refine pv_iret (pc := 116) dX12_knotting_116 rfl rfl ?_
              first
                | (exfalso; first | (have f1 := h9; have f2 := h21; rw [f1] at f2; exact absurd f2 (by decide)) | exact h9 h91 | exact h91 h9 | exact h21 h104 | exact h104 h21 | (have f1 := h35; have f2 := h81; exact f1 f2) | (have f1 := h35; have f2 := h81; exact f2 f1) | (have f1 := h9; have f2 := h104; rw [f1] at f2; exact absurd f2 (by decide)) | (have f1 := h21; have f2 := h91; rw [f1] at f2; exact absurd f2 (by decide)))
                | (refine ⟨?_, rfl, rfl, rfl, ?_, hX⟩
                   · unfold w_knV
                     first
                       | (have f1 := h9; rw [if_pos f1]; unfold w_knT; (first | (have g1 := (pv_b_n0 _).mp h35; rw [if_pos g1]; rfl) | (have g1 := (pv_b_0 _).mp h35; rw [if_neg (by rw [g1]; decide)]; rfl)))
                       | (have f1 := h9; have f2 := h21; rw [if_neg f1, if_pos f2]; unfold w_knT; (first | (have g1 := (pv_b_n0 _).mp h35; rw [if_pos g1]; rfl) | (have g1 := (pv_b_0 _).mp h35; rw [if_neg (by rw [g1]; decide)]; rfl)))
                       | (have f1 := h9; have f2 := h21; rw [if_neg f1, if_neg f2]; unfold w_knT; (first | (have g1 := (pv_b_n0 _).mp h35; rw [if_pos g1]; rfl) | (have g1 := (pv_b_0 _).mp h35; rw [if_neg (by rw [g1]; decide)]; rfl)))
                   · unfold w_knB
                     first
                       | (have f1 := h9; have eC : w_knC J (J 1 f.toNatClampNeg) = w_body J 41 := by (unfold w_knC; rw [if_pos f1])
                          rw [eC]; (first | (have g1 := (pv_b_n0 _).mp h35; rw [if_pos g1]; exact hM) | (have g1 := (pv_b_0 _).mp h35; rw [if_neg (by rw [g1]; decide)]; exact hM)))
                       | (have f1 := h9; have f2 := h21; have eC : w_knC J (J 1 f.toNatClampNeg) = w_body J 70 := by (unfold w_knC; rw [if_neg f1, if_pos f2])
                          rw [eC]; (first | (have g1 := (pv_b_n0 _).mp h35; rw [if_pos g1]; exact hM) | (have g1 := (pv_b_0 _).mp h35; rw [if_neg (by rw [g1]; decide)]; exact hM)))
                       | (have f1 := h9; have f2 := h21; have eC : w_knC J (J 1 f.toNatClampNeg) = J := by (unfold w_knC; rw [if_neg f1, if_neg f2])
                          rw [eC]; (first | (have g1 := (pv_b_n0 _).mp h35; rw [if_pos g1]; exact hM) | (have g1 := (pv_b_0 _).mp h35; rw [if_neg (by rw [g1]; decide)]; exact hM))))
          · refine pv_iload_4 (pc := 94) dX12_knotting_94 ?_
            refine pv_iload_1 (pc := 96) dX12_knotting_96 ?_
            refine pv_isub (pc := 97) dX12_knotting_97 ?_
            refine pv_goto (pc := 98) (tgt := 116) dX12_knotting_98 (by decide) ?_
            refine pv_iret (pc := 116) dX12_knotting_116 rfl rfl ?_
            first
              | (exfalso; first | (have f1 := h9; have f2 := h21; rw [f1] at f2; exact absurd f2 (by decide)) | exact h9 h91 | exact h91 h9 | exact h21 h104 | exact h104 h21 | (have f1 := h35; have f2 := h81; exact f1 f2) | (have f1 := h35; have f2 := h81; exact f2 f1) | (have f1 := h9; have f2 := h104; rw [f1] at f2; exact absurd f2 (by decide)) | (have f1 := h21; have f2 := h91; rw [f1] at f2; exact absurd f2 (by decide)))
              | (refine ⟨?_, rfl, rfl, rfl, ?_, hX⟩
                 · unfold w_knV
                   first
                     | (have f1 := h9; rw [if_pos f1]; unfold w_knT; (first | (have g1 := (pv_b_n0 _).mp h35; rw [if_pos g1]; rfl) | (have g1 := (pv_b_0 _).mp h35; rw [if_neg (by rw [g1]; decide)]; rfl)))
                     | (have f1 := h9; have f2 := h21; rw [if_neg f1, if_pos f2]; unfold w_knT; (first | (have g1 := (pv_b_n0 _).mp h35; rw [if_pos g1]; rfl) | (have g1 := (pv_b_0 _).mp h35; rw [if_neg (by rw [g1]; decide)]; rfl)))
                     | (have f1 := h9; have f2 := h21; rw [if_neg f1, if_neg f2]; unfold w_knT; (first | (have g1 := (pv_b_n0 _).mp h35; rw [if_pos g1]; rfl) | (have g1 := (pv_b_0 _).mp h35; rw [if_neg (by rw [g1]; decide)]; rfl)))
                 · unfold w_knB
                   first
                     | (have f1 := h9; have eC : w_knC J (J 1 f.toNatClampNeg) = w_body J 41 := by (unfold w_knC; rw [if_pos f1])
                        rw [eC]; (first | (have g1 := (pv_b_n0 _).mp h35; rw [if_pos g1]; exact hM) | (have g1 := (pv_b_0 _).mp h35; rw [if_neg (by rw [g1]; decide)]; exact hM)))
                     | (have f1 := h9; have f2 := h21; have eC : w_knC J (J 1 f.toNatClampNeg) = w_body J 70 := by (unfold w_knC; rw [if_neg f1, if_pos f2])
                        rw [eC]; (first | (have g1 := (pv_b_n0 _).mp h35; rw [if_pos g1]; exact hM) | (have g1 := (pv_b_0 _).mp h35; rw [if_neg (by rw [g1]; decide)]; exact hM)))
                     | (have f1 := h9; have f2 := h21; have eC : w_knC J (J 1 f.toNatClampNeg) = J := by (unfold w_knC; rw [if_neg f1, if_neg f2])
                        rw [eC]; (first | (have g1 := (pv_b_n0 _).mp h35; rw [if_pos g1]; exact hM) | (have g1 := (pv_b_0 _).mp h35; rw [if_neg (by rw [g1]; decide)]; exact hM))))
        · refine pv_iload_4 (pc := 84) dX12_knotting_84 ?_
          refine pv_ineg (pc := 86) dX12_knotting_86 ?_
          refine pv_istore_4 (pc := 87) dX12_knotting_87 (by decide) rfl ?_
          refine pv_iload_3 (pc := 89) dX12_knotting_89 ?_
          refine pv_iconst (pc := 90) (v := 3) dX12_knotting_90 (by decide) ?_
          refine pv_icmp_ne (pc := 91) (tgt := 101) dX12_knotting_91 (by decide) (fun h91 => ?_) (fun h91 => ?_)
          · refine pv_iload_3 (pc := 101) dX12_knotting_101 ?_
            refine pv_bipush (pc := 102) (v := 6) dX12_knotting_102 (by decide) ?_
            refine pv_icmp_ne (pc := 104) (tgt := 114) dX12_knotting_104 (by decide) (fun h104 => ?_) (fun h104 => ?_)
            · refine pv_iload_4 (pc := 114) dX12_knotting_114 ?_
              refine pv_iret (pc := 116) dX12_knotting_116 rfl rfl ?_
              first
                | (exfalso; first | (have f1 := h9; have f2 := h21; rw [f1] at f2; exact absurd f2 (by decide)) | exact h9 h91 | exact h91 h9 | exact h21 h104 | exact h104 h21 | (have f1 := h35; have f2 := h81; exact f1 f2) | (have f1 := h35; have f2 := h81; exact f2 f1) | (have f1 := h9; have f2 := h104; rw [f1] at f2; exact absurd f2 (by decide)) | (have f1 := h21; have f2 := h91; rw [f1] at f2; exact absurd f2 (by decide)))
                | (refine ⟨?_, rfl, rfl, rfl, ?_, hX⟩
                   · unfold w_knV
                     first
                       | (have f1 := h9; rw [if_pos f1]; unfold w_knT; (first | (have g1 := (pv_b_n0 _).mp h35; rw [if_pos g1]; rfl) | (have g1 := (pv_b_0 _).mp h35; rw [if_neg (by rw [g1]; decide)]; rfl)))
                       | (have f1 := h9; have f2 := h21; rw [if_neg f1, if_pos f2]; unfold w_knT; (first | (have g1 := (pv_b_n0 _).mp h35; rw [if_pos g1]; rfl) | (have g1 := (pv_b_0 _).mp h35; rw [if_neg (by rw [g1]; decide)]; rfl)))
                       | (have f1 := h9; have f2 := h21; rw [if_neg f1, if_neg f2]; unfold w_knT; (first | (have g1 := (pv_b_n0 _).mp h35; rw [if_pos g1]; rfl) | (have g1 := (pv_b_0 _).mp h35; rw [if_neg (by rw [g1]; decide)]; rfl)))
                   · unfold w_knB
                     first
                       | (have f1 := h9; have eC : w_knC J (J 1 f.toNatClampNeg) = w_body J 41 := by (unfold w_knC; rw [if_pos f1])
                          rw [eC]; (first | (have g1 := (pv_b_n0 _).mp h35; rw [if_pos g1]; exact hM) | (have g1 := (pv_b_0 _).mp h35; rw [if_neg (by rw [g1]; decide)]; exact hM)))
                       | (have f1 := h9; have f2 := h21; have eC : w_knC J (J 1 f.toNatClampNeg) = w_body J 70 := by (unfold w_knC; rw [if_neg f1, if_pos f2])
                          rw [eC]; (first | (have g1 := (pv_b_n0 _).mp h35; rw [if_pos g1]; exact hM) | (have g1 := (pv_b_0 _).mp h35; rw [if_neg (by rw [g1]; decide)]; exact hM)))
                       | (have f1 := h9; have f2 := h21; have eC : w_knC J (J 1 f.toNatClampNeg) = J := by (unfold w_knC; rw [if_neg f1, if_neg f2])
                          rw [eC]; (first | (have g1 := (pv_b_n0 _).mp h35; rw [if_pos g1]; exact hM) | (have g1 := (pv_b_0 _).mp h35; rw [if_neg (by rw [g1]; decide)]; exact hM))))
            · refine pv_iload_4 (pc := 107) dX12_knotting_107 ?_
              refine pv_iconst (pc := 109) (v := 5) dX12_knotting_109 (by decide) ?_
              refine pv_ixor (pc := 110) dX12_knotting_110 ?_
              refine pv_goto (pc := 111) (tgt := 116) dX12_knotting_111 (by decide) ?_
              refine pv_iret (pc := 116) dX12_knotting_116 rfl rfl ?_
              first
                | (exfalso; first | (have f1 := h9; have f2 := h21; rw [f1] at f2; exact absurd f2 (by decide)) | exact h9 h91 | exact h91 h9 | exact h21 h104 | exact h104 h21 | (have f1 := h35; have f2 := h81; exact f1 f2) | (have f1 := h35; have f2 := h81; exact f2 f1) | (have f1 := h9; have f2 := h104; rw [f1] at f2; exact absurd f2 (by decide)) | (have f1 := h21; have f2 := h91; rw [f1] at f2; exact absurd f2 (by decide)))
                | (refine ⟨?_, rfl, rfl, rfl, ?_, hX⟩
                   · unfold w_knV
                     first
                       | (have f1 := h9; rw [if_pos f1]; unfold w_knT; (first | (have g1 := (pv_b_n0 _).mp h35; rw [if_pos g1]; rfl) | (have g1 := (pv_b_0 _).mp h35; rw [if_neg (by rw [g1]; decide)]; rfl)))
                       | (have f1 := h9; have f2 := h21; rw [if_neg f1, if_pos f2]; unfold w_knT; (first | (have g1 := (pv_b_n0 _).mp h35; rw [if_pos g1]; rfl) | (have g1 := (pv_b_0 _).mp h35; rw [if_neg (by rw [g1]; decide)]; rfl)))
                       | (have f1 := h9; have f2 := h21; rw [if_neg f1, if_neg f2]; unfold w_knT; (first | (have g1 := (pv_b_n0 _).mp h35; rw [if_pos g1]; rfl) | (have g1 := (pv_b_0 _).mp h35; rw [if_neg (by rw [g1]; decide)]; rfl)))
                   · unfold w_knB
                     first
                       | (have f1 := h9; have eC : w_knC J (J 1 f.toNatClampNeg) = w_body J 41 := by (unfold w_knC; rw [if_pos f1])
                          rw [eC]; (first | (have g1 := (pv_b_n0 _).mp h35; rw [if_pos g1]; exact hM) | (have g1 := (pv_b_0 _).mp h35; rw [if_neg (by rw [g1]; decide)]; exact hM)))
                       | (have f1 := h9; have f2 := h21; have eC : w_knC J (J 1 f.toNatClampNeg) = w_body J 70 := by (unfold w_knC; rw [if_neg f1, if_pos f2])
                          rw [eC]; (first | (have g1 := (pv_b_n0 _).mp h35; rw [if_pos g1]; exact hM) | (have g1 := (pv_b_0 _).mp h35; rw [if_neg (by rw [g1]; decide)]; exact hM)))
                       | (have f1 := h9; have f2 := h21; have eC : w_knC J (J 1 f.toNatClampNeg) = J := by (unfold w_knC; rw [if_neg f1, if_neg f2])
                          rw [eC]; (first | (have g1 := (pv_b_n0 _).mp h35; rw [if_pos g1]; exact hM) | (have g1 := (pv_b_0 _).mp h35; rw [if_neg (by rw [g1]; decide)]; exact hM))))
          · refine pv_iload_4 (pc := 94) dX12_knotting_94 ?_
            refine pv_iload_1 (pc := 96) dX12_knotting_96 ?_
            refine pv_isub (pc := 97) dX12_knotting_97 ?_
            refine pv_goto (pc := 98) (tgt := 116) dX12_knotting_98 (by decide) ?_
            refine pv_iret (pc := 116) dX12_knotting_116 rfl rfl ?_
            first
              | (exfalso; first | (have f1 := h9; have f2 := h21; rw [f1] at f2; exact absurd f2 (by decide)) | exact h9 h91 | exact h91 h9 | exact h21 h104 | exact h104 h21 | (have f1 := h35; have f2 := h81; exact f1 f2) | (have f1 := h35; have f2 := h81; exact f2 f1) | (have f1 := h9; have f2 := h104; rw [f1] at f2; exact absurd f2 (by decide)) | (have f1 := h21; have f2 := h91; rw [f1] at f2; exact absurd f2 (by decide)))
              | (refine ⟨?_, rfl, rfl, rfl, ?_, hX⟩
                 · unfold w_knV
                   first
                     | (have f1 := h9; rw [if_pos f1]; unfold w_knT; (first | (have g1 := (pv_b_n0 _).mp h35; rw [if_pos g1]; rfl) | (have g1 := (pv_b_0 _).mp h35; rw [if_neg (by rw [g1]; decide)]; rfl)))
                     | (have f1 := h9; have f2 := h21; rw [if_neg f1, if_pos f2]; unfold w_knT; (first | (have g1 := (pv_b_n0 _).mp h35; rw [if_pos g1]; rfl) | (have g1 := (pv_b_0 _).mp h35; rw [if_neg (by rw [g1]; decide)]; rfl)))
                     | (have f1 := h9; have f2 := h21; rw [if_neg f1, if_neg f2]; unfold w_knT; (first | (have g1 := (pv_b_n0 _).mp h35; rw [if_pos g1]; rfl) | (have g1 := (pv_b_0 _).mp h35; rw [if_neg (by rw [g1]; decide)]; rfl)))
                 · unfold w_knB
                   first
                     | (have f1 := h9; have eC : w_knC J (J 1 f.toNatClampNeg) = w_body J 41 := by (unfold w_knC; rw [if_pos f1])
                        rw [eC]; (first | (have g1 := (pv_b_n0 _).mp h35; rw [if_pos g1]; exact hM) | (have g1 := (pv_b_0 _).mp h35; rw [if_neg (by rw [g1]; decide)]; exact hM)))
                     | (have f1 := h9; have f2 := h21; have eC : w_knC J (J 1 f.toNatClampNeg) = w_body J 70 := by (unfold w_knC; rw [if_neg f1, if_pos f2])
                        rw [eC]; (first | (have g1 := (pv_b_n0 _).mp h35; rw [if_pos g1]; exact hM) | (have g1 := (pv_b_0 _).mp h35; rw [if_neg (by rw [g1]; decide)]; exact hM)))
                     | (have f1 := h9; have f2 := h21; have eC : w_knC J (J 1 f.toNatClampNeg) = J := by (unfold w_knC; rw [if_neg f1, if_neg f2])
                        rw [eC]; (first | (have g1 := (pv_b_n0 _).mp h35; rw [if_pos g1]; exact hM) | (have g1 := (pv_b_0 _).mp h35; rw [if_neg (by rw [g1]; decide)]; exact hM))))
    · refine pv_aload_0 (pc := 24) dX12_knotting_24 ?_
      refine pv_bipush (pc := 25) (v := 70) dX12_knotting_25 (by decide) ?_
      refine pv_callVq (pc := 27) dX12_knotting_27 mgX12_body lv_X12_396_12 (by decide) (sx_61 hT) (by omega) (c_X12_body hT hR hM ⟨hr.1, by have := hr.2; omega⟩) rfl rfl (by decide) (fun v t I L Rf hq => ?_)
      obtain ⟨rfl, rfl, rfl, rfl, hM, hX2⟩ := hq
      have hX := hX.tr hX2
      have hr := body_n (b := 70) hr (by omega)
      have hW := body_wf (b := 70) hW
      refine pv_aload_0 (pc := 30) dX12_knotting_30 ?_
      refine pv_iload_3 (pc := 31) dX12_knotting_31 ?_
      refine pv_callV1 (pc := 32) dX12_knotting_32 mgX12_isTurn lv_X12_125_12 (by decide) (sx_61 hT) (by omega) (c_X12_isTurn ) rfl rfl (by decide) ?_
      refine pv_if_eq (pc := 35) (tgt := 44) dX12_knotting_35 (by decide) (fun h35 => ?_) (fun h35 => ?_)
      · refine pv_aload_0 (pc := 44) dX12_knotting_44 ?_
        refine pv_bipush (pc := 45) (v := 12) dX12_knotting_45 (by decide) ?_
        refine pv_callVq (pc := 47) dX12_knotting_47 mgX12_body lv_X12_396_12 (by decide) (sx_61 hT) (by omega) (c_X12_body hT hR hM ⟨hr.1, by have := hr.2; omega⟩) rfl rfl (by decide) (fun v t I L Rf hq => ?_)
        obtain ⟨rfl, rfl, rfl, rfl, hM, hX2⟩ := hq
        have hX := hX.tr hX2
        have hr := body_n (b := 12) hr (by omega)
        have hW := body_wf (b := 12) hW
        refine pv_aload_0 (pc := 50) dX12_knotting_50 ?_
        refine pv_iload_1 (pc := 51) dX12_knotting_51 ?_
        refine pv_iload_2 (pc := 52) dX12_knotting_52 ?_
        refine pv_callVq (pc := 53) dX12_knotting_53 mgX12_stepping lv_X12_402_12 (by decide) (sx_61 hT) (by omega) (c_X12_stepping hT hR hW hM hF hr (by omega) (by omega)) rfl rfl (by decide) (fun v t I L Rf hq => ?_)
        obtain ⟨rfl, rfl, rfl, rfl, hM, hX2⟩ := hq
        have hX := hX.tr hX2
        have hr := body_n5 (k := J 1 f.toNatClampNeg) hr (by omega)
        have hW := stB_wf (k := J 1 f.toNatClampNeg) hW
        refine pv_istore_4 (pc := 56) dX12_knotting_56 (by decide) rfl ?_
        refine pv_iload_4 (pc := 58) dX12_knotting_58 ?_
        refine pv_aload_0 (pc := 60) dX12_knotting_60 ?_
        refine pv_iload_1 (pc := 61) dX12_knotting_61 ?_
        refine pv_iload_2 (pc := 62) dX12_knotting_62 ?_
        refine pv_aload_0 (pc := 63) dX12_knotting_63 ?_
        refine pv_getR (pc := 64) dX12_knotting_64 fg_X12_27_12 rfl (by decide) (sx_61 hT) (rx_61_9 hR) ?_
        refine pv_iload_1 (pc := 67) dX12_knotting_67 ?_
        refine pv_ialoadj (pc := 68) dX12_knotting_68 (sx_64 hT) rfl h8 ?_
        refine pv_topv2 (y := J 2 f.toNatClampNeg) (by have e := (hM.2.1 f.toNatClampNeg (by rw [w_stB_1 _ _ 0 0 (by decide) (by decide)]; exact hn)).2.1; rw [w_stB_1 _ _ 2 _ (by decide) (by omega)] at e; exact e) ?_
        refine pv_isub (pc := 69) dX12_knotting_69 ?_
        refine pv_callVq (pc := 70) dX12_knotting_70 mgX12_calling lv_X12_399_12 (by decide) (sx_61 hT) (by omega) (c_X12_calling hT hR hW hM (by unfold w_isF; rw [w_stB_1 _ _ 0 0 (by decide) (by decide)]; exact hF) hr (by omega) (by omega)) rfl rfl (Nat.le_of_ble_eq_true rfl) (fun v t I L Rf hq => ?_)
        obtain ⟨rfl, rfl, rfl, rfl, hM, hX2⟩ := hq
        have hX := hX.tr hX2
        rw [w_calV_s]
        rw [w_stB_1 _ _ 1 _ (by decide) (by omega)] at hM
        refine pv_ixor (pc := 73) dX12_knotting_73 ?_
        refine pv_istore_4 (pc := 74) dX12_knotting_74 (by decide) rfl ?_
        refine pv_aload_0 (pc := 76) dX12_knotting_76 ?_
        refine pv_iload_3 (pc := 77) dX12_knotting_77 ?_
        refine pv_callV1 (pc := 78) dX12_knotting_78 mgX12_isTurn lv_X12_125_12 (by decide) (sx_61 hT) (by omega) (c_X12_isTurn ) rfl rfl (by decide) ?_
        refine pv_if_eq (pc := 81) (tgt := 89) dX12_knotting_81 (by decide) (fun h81 => ?_) (fun h81 => ?_)
        · refine pv_iload_3 (pc := 89) dX12_knotting_89 ?_
          refine pv_iconst (pc := 90) (v := 3) dX12_knotting_90 (by decide) ?_
          refine pv_icmp_ne (pc := 91) (tgt := 101) dX12_knotting_91 (by decide) (fun h91 => ?_) (fun h91 => ?_)
          · refine pv_iload_3 (pc := 101) dX12_knotting_101 ?_
            refine pv_bipush (pc := 102) (v := 6) dX12_knotting_102 (by decide) ?_
            refine pv_icmp_ne (pc := 104) (tgt := 114) dX12_knotting_104 (by decide) (fun h104 => ?_) (fun h104 => ?_)
            · refine pv_iload_4 (pc := 114) dX12_knotting_114 ?_
              refine pv_iret (pc := 116) dX12_knotting_116 rfl rfl ?_
              first
                | (exfalso; first | (have f1 := h9; have f2 := h21; rw [f1] at f2; exact absurd f2 (by decide)) | exact h9 h91 | exact h91 h9 | exact h21 h104 | exact h104 h21 | (have f1 := h35; have f2 := h81; exact f1 f2) | (have f1 := h35; have f2 := h81; exact f2 f1) | (have f1 := h9; have f2 := h104; rw [f1] at f2; exact absurd f2 (by decide)) | (have f1 := h21; have f2 := h91; rw [f1] at f2; exact absurd f2 (by decide)))
                | (refine ⟨?_, rfl, rfl, rfl, ?_, hX⟩
                   · unfold w_knV
                     first
                       | (have f1 := h9; rw [if_pos f1]; unfold w_knT; (first | (have g1 := (pv_b_n0 _).mp h35; rw [if_pos g1]; rfl) | (have g1 := (pv_b_0 _).mp h35; rw [if_neg (by rw [g1]; decide)]; rfl)))
                       | (have f1 := h9; have f2 := h21; rw [if_neg f1, if_pos f2]; unfold w_knT; (first | (have g1 := (pv_b_n0 _).mp h35; rw [if_pos g1]; rfl) | (have g1 := (pv_b_0 _).mp h35; rw [if_neg (by rw [g1]; decide)]; rfl)))
                       | (have f1 := h9; have f2 := h21; rw [if_neg f1, if_neg f2]; unfold w_knT; (first | (have g1 := (pv_b_n0 _).mp h35; rw [if_pos g1]; rfl) | (have g1 := (pv_b_0 _).mp h35; rw [if_neg (by rw [g1]; decide)]; rfl)))
                   · unfold w_knB
                     first
                       | (have f1 := h9; have eC : w_knC J (J 1 f.toNatClampNeg) = w_body J 41 := by (unfold w_knC; rw [if_pos f1])
                          rw [eC]; (first | (have g1 := (pv_b_n0 _).mp h35; rw [if_pos g1]; exact hM) | (have g1 := (pv_b_0 _).mp h35; rw [if_neg (by rw [g1]; decide)]; exact hM)))
                       | (have f1 := h9; have f2 := h21; have eC : w_knC J (J 1 f.toNatClampNeg) = w_body J 70 := by (unfold w_knC; rw [if_neg f1, if_pos f2])
                          rw [eC]; (first | (have g1 := (pv_b_n0 _).mp h35; rw [if_pos g1]; exact hM) | (have g1 := (pv_b_0 _).mp h35; rw [if_neg (by rw [g1]; decide)]; exact hM)))
                       | (have f1 := h9; have f2 := h21; have eC : w_knC J (J 1 f.toNatClampNeg) = J := by (unfold w_knC; rw [if_neg f1, if_neg f2])
                          rw [eC]; (first | (have g1 := (pv_b_n0 _).mp h35; rw [if_pos g1]; exact hM) | (have g1 := (pv_b_0 _).mp h35; rw [if_neg (by rw [g1]; decide)]; exact hM))))
            · refine pv_iload_4 (pc := 107) dX12_knotting_107 ?_
              refine pv_iconst (pc := 109) (v := 5) dX12_knotting_109 (by decide) ?_
              refine pv_ixor (pc := 110) dX12_knotting_110 ?_
              refine pv_goto (pc := 111) (tgt := 116) dX12_knotting_111 (by decide) ?_
              refine pv_iret (pc := 116) dX12_knotting_116 rfl rfl ?_
              first
                | (exfalso; first | (have f1 := h9; have f2 := h21; rw [f1] at f2; exact absurd f2 (by decide)) | exact h9 h91 | exact h91 h9 | exact h21 h104 | exact h104 h21 | (have f1 := h35; have f2 := h81; exact f1 f2) | (have f1 := h35; have f2 := h81; exact f2 f1) | (have f1 := h9; have f2 := h104; rw [f1] at f2; exact absurd f2 (by decide)) | (have f1 := h21; have f2 := h91; rw [f1] at f2; exact absurd f2 (by decide)))
                | (refine ⟨?_, rfl, rfl, rfl, ?_, hX⟩
                   · unfold w_knV
                     first
                       | (have f1 := h9; rw [if_pos f1]; unfold w_knT; (first | (have g1 := (pv_b_n0 _).mp h35; rw [if_pos g1]; rfl) | (have g1 := (pv_b_0 _).mp h35; rw [if_neg (by rw [g1]; decide)]; rfl)))
                       | (have f1 := h9; have f2 := h21; rw [if_neg f1, if_pos f2]; unfold w_knT; (first | (have g1 := (pv_b_n0 _).mp h35; rw [if_pos g1]; rfl) | (have g1 := (pv_b_0 _).mp h35; rw [if_neg (by rw [g1]; decide)]; rfl)))
                       | (have f1 := h9; have f2 := h21; rw [if_neg f1, if_neg f2]; unfold w_knT; (first | (have g1 := (pv_b_n0 _).mp h35; rw [if_pos g1]; rfl) | (have g1 := (pv_b_0 _).mp h35; rw [if_neg (by rw [g1]; decide)]; rfl)))
                   · unfold w_knB
                     first
                       | (have f1 := h9; have eC : w_knC J (J 1 f.toNatClampNeg) = w_body J 41 := by (unfold w_knC; rw [if_pos f1])
                          rw [eC]; (first | (have g1 := (pv_b_n0 _).mp h35; rw [if_pos g1]; exact hM) | (have g1 := (pv_b_0 _).mp h35; rw [if_neg (by rw [g1]; decide)]; exact hM)))
                       | (have f1 := h9; have f2 := h21; have eC : w_knC J (J 1 f.toNatClampNeg) = w_body J 70 := by (unfold w_knC; rw [if_neg f1, if_pos f2])
                          rw [eC]; (first | (have g1 := (pv_b_n0 _).mp h35; rw [if_pos g1]; exact hM) | (have g1 := (pv_b_0 _).mp h35; rw [if_neg (by rw [g1]; decide)]; exact hM)))
                       | (have f1 := h9; have f2 := h21; have eC : w_knC J (J 1 f.toNatClampNeg) = J := by (unfold w_knC; rw [if_neg f1, if_neg f2])
                          rw [eC]; (first | (have g1 := (pv_b_n0 _).mp h35; rw [if_pos g1]; exact hM) | (have g1 := (pv_b_0 _).mp h35; rw [if_neg (by rw [g1]; decide)]; exact hM))))
          · refine pv_iload_4 (pc := 94) dX12_knotting_94 ?_
            refine pv_iload_1 (pc := 96) dX12_knotting_96 ?_
            refine pv_isub (pc := 97) dX12_knotting_97 ?_
            refine pv_goto (pc := 98) (tgt := 116) dX12_knotting_98 (by decide) ?_
            refine pv_iret (pc := 116) dX12_knotting_116 rfl rfl ?_
            first
              | (exfalso; first | (have f1 := h9; have f2 := h21; rw [f1] at f2; exact absurd f2 (by decide)) | exact h9 h91 | exact h91 h9 | exact h21 h104 | exact h104 h21 | (have f1 := h35; have f2 := h81; exact f1 f2) | (have f1 := h35; have f2 := h81; exact f2 f1) | (have f1 := h9; have f2 := h104; rw [f1] at f2; exact absurd f2 (by decide)) | (have f1 := h21; have f2 := h91; rw [f1] at f2; exact absurd f2 (by decide)))
              | (refine ⟨?_, rfl, rfl, rfl, ?_, hX⟩
                 · unfold w_knV
                   first
                     | (have f1 := h9; rw [if_pos f1]; unfold w_knT; (first | (have g1 := (pv_b_n0 _).mp h35; rw [if_pos g1]; rfl) | (have g1 := (pv_b_0 _).mp h35; rw [if_neg (by rw [g1]; decide)]; rfl)))
                     | (have f1 := h9; have f2 := h21; rw [if_neg f1, if_pos f2]; unfold w_knT; (first | (have g1 := (pv_b_n0 _).mp h35; rw [if_pos g1]; rfl) | (have g1 := (pv_b_0 _).mp h35; rw [if_neg (by rw [g1]; decide)]; rfl)))
                     | (have f1 := h9; have f2 := h21; rw [if_neg f1, if_neg f2]; unfold w_knT; (first | (have g1 := (pv_b_n0 _).mp h35; rw [if_pos g1]; rfl) | (have g1 := (pv_b_0 _).mp h35; rw [if_neg (by rw [g1]; decide)]; rfl)))
                 · unfold w_knB
                   first
                     | (have f1 := h9; have eC : w_knC J (J 1 f.toNatClampNeg) = w_body J 41 := by (unfold w_knC; rw [if_pos f1])
                        rw [eC]; (first | (have g1 := (pv_b_n0 _).mp h35; rw [if_pos g1]; exact hM) | (have g1 := (pv_b_0 _).mp h35; rw [if_neg (by rw [g1]; decide)]; exact hM)))
                     | (have f1 := h9; have f2 := h21; have eC : w_knC J (J 1 f.toNatClampNeg) = w_body J 70 := by (unfold w_knC; rw [if_neg f1, if_pos f2])
                        rw [eC]; (first | (have g1 := (pv_b_n0 _).mp h35; rw [if_pos g1]; exact hM) | (have g1 := (pv_b_0 _).mp h35; rw [if_neg (by rw [g1]; decide)]; exact hM)))
                     | (have f1 := h9; have f2 := h21; have eC : w_knC J (J 1 f.toNatClampNeg) = J := by (unfold w_knC; rw [if_neg f1, if_neg f2])
                        rw [eC]; (first | (have g1 := (pv_b_n0 _).mp h35; rw [if_pos g1]; exact hM) | (have g1 := (pv_b_0 _).mp h35; rw [if_neg (by rw [g1]; decide)]; exact hM))))
        · refine pv_iload_4 (pc := 84) dX12_knotting_84 ?_
          refine pv_ineg (pc := 86) dX12_knotting_86 ?_
          refine pv_istore_4 (pc := 87) dX12_knotting_87 (by decide) rfl ?_
          refine pv_iload_3 (pc := 89) dX12_knotting_89 ?_
          refine pv_iconst (pc := 90) (v := 3) dX12_knotting_90 (by decide) ?_
          refine pv_icmp_ne (pc := 91) (tgt := 101) dX12_knotting_91 (by decide) (fun h91 => ?_) (fun h91 => ?_)
          · refine pv_iload_3 (pc := 101) dX12_knotting_101 ?_
            refine pv_bipush (pc := 102) (v := 6) dX12_knotting_102 (by decide) ?_
            refine pv_icmp_ne (pc := 104) (tgt := 114) dX12_knotting_104 (by decide) (fun h104 => ?_) (fun h104 => ?_)
            · refine pv_iload_4 (pc := 114) dX12_knotting_114 ?_
              refine pv_iret (pc := 116) dX12_knotting_116 rfl rfl ?_
              first
                | (exfalso; first | (have f1 := h9; have f2 := h21; rw [f1] at f2; exact absurd f2 (by decide)) | exact h9 h91 | exact h91 h9 | exact h21 h104 | exact h104 h21 | (have f1 := h35; have f2 := h81; exact f1 f2) | (have f1 := h35; have f2 := h81; exact f2 f1) | (have f1 := h9; have f2 := h104; rw [f1] at f2; exact absurd f2 (by decide)) | (have f1 := h21; have f2 := h91; rw [f1] at f2; exact absurd f2 (by decide)))
                | (refine ⟨?_, rfl, rfl, rfl, ?_, hX⟩
                   · unfold w_knV
                     first
                       | (have f1 := h9; rw [if_pos f1]; unfold w_knT; (first | (have g1 := (pv_b_n0 _).mp h35; rw [if_pos g1]; rfl) | (have g1 := (pv_b_0 _).mp h35; rw [if_neg (by rw [g1]; decide)]; rfl)))
                       | (have f1 := h9; have f2 := h21; rw [if_neg f1, if_pos f2]; unfold w_knT; (first | (have g1 := (pv_b_n0 _).mp h35; rw [if_pos g1]; rfl) | (have g1 := (pv_b_0 _).mp h35; rw [if_neg (by rw [g1]; decide)]; rfl)))
                       | (have f1 := h9; have f2 := h21; rw [if_neg f1, if_neg f2]; unfold w_knT; (first | (have g1 := (pv_b_n0 _).mp h35; rw [if_pos g1]; rfl) | (have g1 := (pv_b_0 _).mp h35; rw [if_neg (by rw [g1]; decide)]; rfl)))
                   · unfold w_knB
                     first
                       | (have f1 := h9; have eC : w_knC J (J 1 f.toNatClampNeg) = w_body J 41 := by (unfold w_knC; rw [if_pos f1])
                          rw [eC]; (first | (have g1 := (pv_b_n0 _).mp h35; rw [if_pos g1]; exact hM) | (have g1 := (pv_b_0 _).mp h35; rw [if_neg (by rw [g1]; decide)]; exact hM)))
                       | (have f1 := h9; have f2 := h21; have eC : w_knC J (J 1 f.toNatClampNeg) = w_body J 70 := by (unfold w_knC; rw [if_neg f1, if_pos f2])
                          rw [eC]; (first | (have g1 := (pv_b_n0 _).mp h35; rw [if_pos g1]; exact hM) | (have g1 := (pv_b_0 _).mp h35; rw [if_neg (by rw [g1]; decide)]; exact hM)))
                       | (have f1 := h9; have f2 := h21; have eC : w_knC J (J 1 f.toNatClampNeg) = J := by (unfold w_knC; rw [if_neg f1, if_neg f2])
                          rw [eC]; (first | (have g1 := (pv_b_n0 _).mp h35; rw [if_pos g1]; exact hM) | (have g1 := (pv_b_0 _).mp h35; rw [if_neg (by rw [g1]; decide)]; exact hM))))
            · refine pv_iload_4 (pc := 107) dX12_knotting_107 ?_
              refine pv_iconst (pc := 109) (v := 5) dX12_knotting_109 (by decide) ?_
              refine pv_ixor (pc := 110) dX12_knotting_110 ?_
              refine pv_goto (pc := 111) (tgt := 116) dX12_knotting_111 (by decide) ?_
              refine pv_iret (pc := 116) dX12_knotting_116 rfl rfl ?_
              first
                | (exfalso; first | (have f1 := h9; have f2 := h21; rw [f1] at f2; exact absurd f2 (by decide)) | exact h9 h91 | exact h91 h9 | exact h21 h104 | exact h104 h21 | (have f1 := h35; have f2 := h81; exact f1 f2) | (have f1 := h35; have f2 := h81; exact f2 f1) | (have f1 := h9; have f2 := h104; rw [f1] at f2; exact absurd f2 (by decide)) | (have f1 := h21; have f2 := h91; rw [f1] at f2; exact absurd f2 (by decide)))
                | (refine ⟨?_, rfl, rfl, rfl, ?_, hX⟩
                   · unfold w_knV
                     first
                       | (have f1 := h9; rw [if_pos f1]; unfold w_knT; (first | (have g1 := (pv_b_n0 _).mp h35; rw [if_pos g1]; rfl) | (have g1 := (pv_b_0 _).mp h35; rw [if_neg (by rw [g1]; decide)]; rfl)))
                       | (have f1 := h9; have f2 := h21; rw [if_neg f1, if_pos f2]; unfold w_knT; (first | (have g1 := (pv_b_n0 _).mp h35; rw [if_pos g1]; rfl) | (have g1 := (pv_b_0 _).mp h35; rw [if_neg (by rw [g1]; decide)]; rfl)))
                       | (have f1 := h9; have f2 := h21; rw [if_neg f1, if_neg f2]; unfold w_knT; (first | (have g1 := (pv_b_n0 _).mp h35; rw [if_pos g1]; rfl) | (have g1 := (pv_b_0 _).mp h35; rw [if_neg (by rw [g1]; decide)]; rfl)))
                   · unfold w_knB
                     first
                       | (have f1 := h9; have eC : w_knC J (J 1 f.toNatClampNeg) = w_body J 41 := by (unfold w_knC; rw [if_pos f1])
                          rw [eC]; (first | (have g1 := (pv_b_n0 _).mp h35; rw [if_pos g1]; exact hM) | (have g1 := (pv_b_0 _).mp h35; rw [if_neg (by rw [g1]; decide)]; exact hM)))
                       | (have f1 := h9; have f2 := h21; have eC : w_knC J (J 1 f.toNatClampNeg) = w_body J 70 := by (unfold w_knC; rw [if_neg f1, if_pos f2])
                          rw [eC]; (first | (have g1 := (pv_b_n0 _).mp h35; rw [if_pos g1]; exact hM) | (have g1 := (pv_b_0 _).mp h35; rw [if_neg (by rw [g1]; decide)]; exact hM)))
                       | (have f1 := h9; have f2 := h21; have eC : w_knC J (J 1 f.toNatClampNeg) = J := by (unfold w_knC; rw [if_neg f1, if_neg f2])
                          rw [eC]; (first | (have g1 := (pv_b_n0 _).mp h35; rw [if_pos g1]; exact hM) | (have g1 := (pv_b_0 _).mp h35; rw [if_neg (by rw [g1]; decide)]; exact hM))))
          · refine pv_iload_4 (pc := 94) dX12_knotting_94 ?_
            refine pv_iload_1 (pc := 96) dX12_knotting_96 ?_
            refine pv_isub (pc := 97) dX12_knotting_97 ?_
            refine pv_goto (pc := 98) (tgt := 116) dX12_knotting_98 (by decide) ?_
            refine pv_iret (pc := 116) dX12_knotting_116 rfl rfl ?_
            first
              | (exfalso; first | (have f1 := h9; have f2 := h21; rw [f1] at f2; exact absurd f2 (by decide)) | exact h9 h91 | exact h91 h9 | exact h21 h104 | exact h104 h21 | (have f1 := h35; have f2 := h81; exact f1 f2) | (have f1 := h35; have f2 := h81; exact f2 f1) | (have f1 := h9; have f2 := h104; rw [f1] at f2; exact absurd f2 (by decide)) | (have f1 := h21; have f2 := h91; rw [f1] at f2; exact absurd f2 (by decide)))
              | (refine ⟨?_, rfl, rfl, rfl, ?_, hX⟩
                 · unfold w_knV
                   first
                     | (have f1 := h9; rw [if_pos f1]; unfold w_knT; (first | (have g1 := (pv_b_n0 _).mp h35; rw [if_pos g1]; rfl) | (have g1 := (pv_b_0 _).mp h35; rw [if_neg (by rw [g1]; decide)]; rfl)))
                     | (have f1 := h9; have f2 := h21; rw [if_neg f1, if_pos f2]; unfold w_knT; (first | (have g1 := (pv_b_n0 _).mp h35; rw [if_pos g1]; rfl) | (have g1 := (pv_b_0 _).mp h35; rw [if_neg (by rw [g1]; decide)]; rfl)))
                     | (have f1 := h9; have f2 := h21; rw [if_neg f1, if_neg f2]; unfold w_knT; (first | (have g1 := (pv_b_n0 _).mp h35; rw [if_pos g1]; rfl) | (have g1 := (pv_b_0 _).mp h35; rw [if_neg (by rw [g1]; decide)]; rfl)))
                 · unfold w_knB
                   first
                     | (have f1 := h9; have eC : w_knC J (J 1 f.toNatClampNeg) = w_body J 41 := by (unfold w_knC; rw [if_pos f1])
                        rw [eC]; (first | (have g1 := (pv_b_n0 _).mp h35; rw [if_pos g1]; exact hM) | (have g1 := (pv_b_0 _).mp h35; rw [if_neg (by rw [g1]; decide)]; exact hM)))
                     | (have f1 := h9; have f2 := h21; have eC : w_knC J (J 1 f.toNatClampNeg) = w_body J 70 := by (unfold w_knC; rw [if_neg f1, if_pos f2])
                        rw [eC]; (first | (have g1 := (pv_b_n0 _).mp h35; rw [if_pos g1]; exact hM) | (have g1 := (pv_b_0 _).mp h35; rw [if_neg (by rw [g1]; decide)]; exact hM)))
                     | (have f1 := h9; have f2 := h21; have eC : w_knC J (J 1 f.toNatClampNeg) = J := by (unfold w_knC; rw [if_neg f1, if_neg f2])
                        rw [eC]; (first | (have g1 := (pv_b_n0 _).mp h35; rw [if_pos g1]; exact hM) | (have g1 := (pv_b_0 _).mp h35; rw [if_neg (by rw [g1]; decide)]; exact hM))))
      · refine pv_aload_0 (pc := 38) dX12_knotting_38 ?_
        refine pv_bipush (pc := 39) (v := 50) dX12_knotting_39 (by decide) ?_
        refine pv_callVq (pc := 41) dX12_knotting_41 mgX12_body lv_X12_396_12 (by decide) (sx_61 hT) (by omega) (c_X12_body hT hR hM ⟨hr.1, by have := hr.2; omega⟩) rfl rfl (by decide) (fun v t I L Rf hq => ?_)
        obtain ⟨rfl, rfl, rfl, rfl, hM, hX2⟩ := hq
        have hX := hX.tr hX2
        have hr := body_n (b := 50) hr (by omega)
        have hW := body_wf (b := 50) hW
        refine pv_aload_0 (pc := 44) dX12_knotting_44 ?_
        refine pv_bipush (pc := 45) (v := 12) dX12_knotting_45 (by decide) ?_
        refine pv_callVq (pc := 47) dX12_knotting_47 mgX12_body lv_X12_396_12 (by decide) (sx_61 hT) (by omega) (c_X12_body hT hR hM ⟨hr.1, by have := hr.2; omega⟩) rfl rfl (by decide) (fun v t I L Rf hq => ?_)
        obtain ⟨rfl, rfl, rfl, rfl, hM, hX2⟩ := hq
        have hX := hX.tr hX2
        have hr := body_n (b := 12) hr (by omega)
        have hW := body_wf (b := 12) hW
        refine pv_aload_0 (pc := 50) dX12_knotting_50 ?_
        refine pv_iload_1 (pc := 51) dX12_knotting_51 ?_
        refine pv_iload_2 (pc := 52) dX12_knotting_52 ?_
        refine pv_callVq (pc := 53) dX12_knotting_53 mgX12_stepping lv_X12_402_12 (by decide) (sx_61 hT) (by omega) (c_X12_stepping hT hR hW hM hF hr (by omega) (by omega)) rfl rfl (by decide) (fun v t I L Rf hq => ?_)
        obtain ⟨rfl, rfl, rfl, rfl, hM, hX2⟩ := hq
        have hX := hX.tr hX2
        have hr := body_n5 (k := J 1 f.toNatClampNeg) hr (by omega)
        have hW := stB_wf (k := J 1 f.toNatClampNeg) hW
        refine pv_istore_4 (pc := 56) dX12_knotting_56 (by decide) rfl ?_
        refine pv_iload_4 (pc := 58) dX12_knotting_58 ?_
        refine pv_aload_0 (pc := 60) dX12_knotting_60 ?_
        refine pv_iload_1 (pc := 61) dX12_knotting_61 ?_
        refine pv_iload_2 (pc := 62) dX12_knotting_62 ?_
        refine pv_aload_0 (pc := 63) dX12_knotting_63 ?_
        refine pv_getR (pc := 64) dX12_knotting_64 fg_X12_27_12 rfl (by decide) (sx_61 hT) (rx_61_9 hR) ?_
        refine pv_iload_1 (pc := 67) dX12_knotting_67 ?_
        refine pv_ialoadj (pc := 68) dX12_knotting_68 (sx_64 hT) rfl h8 ?_
        refine pv_topv2 (y := J 2 f.toNatClampNeg) (by have e := (hM.2.1 f.toNatClampNeg (by rw [w_stB_1 _ _ 0 0 (by decide) (by decide)]; exact hn)).2.1; rw [w_stB_1 _ _ 2 _ (by decide) (by omega)] at e; exact e) ?_
        refine pv_isub (pc := 69) dX12_knotting_69 ?_
        refine pv_callVq (pc := 70) dX12_knotting_70 mgX12_calling lv_X12_399_12 (by decide) (sx_61 hT) (by omega) (c_X12_calling hT hR hW hM (by unfold w_isF; rw [w_stB_1 _ _ 0 0 (by decide) (by decide)]; exact hF) hr (by omega) (by omega)) rfl rfl (Nat.le_of_ble_eq_true rfl) (fun v t I L Rf hq => ?_)
        obtain ⟨rfl, rfl, rfl, rfl, hM, hX2⟩ := hq
        have hX := hX.tr hX2
        rw [w_calV_s]
        rw [w_stB_1 _ _ 1 _ (by decide) (by omega)] at hM
        refine pv_ixor (pc := 73) dX12_knotting_73 ?_
        refine pv_istore_4 (pc := 74) dX12_knotting_74 (by decide) rfl ?_
        refine pv_aload_0 (pc := 76) dX12_knotting_76 ?_
        refine pv_iload_3 (pc := 77) dX12_knotting_77 ?_
        refine pv_callV1 (pc := 78) dX12_knotting_78 mgX12_isTurn lv_X12_125_12 (by decide) (sx_61 hT) (by omega) (c_X12_isTurn ) rfl rfl (by decide) ?_
        refine pv_if_eq (pc := 81) (tgt := 89) dX12_knotting_81 (by decide) (fun h81 => ?_) (fun h81 => ?_)
        · refine pv_iload_3 (pc := 89) dX12_knotting_89 ?_
          refine pv_iconst (pc := 90) (v := 3) dX12_knotting_90 (by decide) ?_
          refine pv_icmp_ne (pc := 91) (tgt := 101) dX12_knotting_91 (by decide) (fun h91 => ?_) (fun h91 => ?_)
          · refine pv_iload_3 (pc := 101) dX12_knotting_101 ?_
            refine pv_bipush (pc := 102) (v := 6) dX12_knotting_102 (by decide) ?_
            refine pv_icmp_ne (pc := 104) (tgt := 114) dX12_knotting_104 (by decide) (fun h104 => ?_) (fun h104 => ?_)
            · refine pv_iload_4 (pc := 114) dX12_knotting_114 ?_
              refine pv_iret (pc := 116) dX12_knotting_116 rfl rfl ?_
              first
                | (exfalso; first | (have f1 := h9; have f2 := h21; rw [f1] at f2; exact absurd f2 (by decide)) | exact h9 h91 | exact h91 h9 | exact h21 h104 | exact h104 h21 | (have f1 := h35; have f2 := h81; exact f1 f2) | (have f1 := h35; have f2 := h81; exact f2 f1) | (have f1 := h9; have f2 := h104; rw [f1] at f2; exact absurd f2 (by decide)) | (have f1 := h21; have f2 := h91; rw [f1] at f2; exact absurd f2 (by decide)))
                | (refine ⟨?_, rfl, rfl, rfl, ?_, hX⟩
                   · unfold w_knV
                     first
                       | (have f1 := h9; rw [if_pos f1]; unfold w_knT; (first | (have g1 := (pv_b_n0 _).mp h35; rw [if_pos g1]; rfl) | (have g1 := (pv_b_0 _).mp h35; rw [if_neg (by rw [g1]; decide)]; rfl)))
                       | (have f1 := h9; have f2 := h21; rw [if_neg f1, if_pos f2]; unfold w_knT; (first | (have g1 := (pv_b_n0 _).mp h35; rw [if_pos g1]; rfl) | (have g1 := (pv_b_0 _).mp h35; rw [if_neg (by rw [g1]; decide)]; rfl)))
                       | (have f1 := h9; have f2 := h21; rw [if_neg f1, if_neg f2]; unfold w_knT; (first | (have g1 := (pv_b_n0 _).mp h35; rw [if_pos g1]; rfl) | (have g1 := (pv_b_0 _).mp h35; rw [if_neg (by rw [g1]; decide)]; rfl)))
                   · unfold w_knB
                     first
                       | (have f1 := h9; have eC : w_knC J (J 1 f.toNatClampNeg) = w_body J 41 := by (unfold w_knC; rw [if_pos f1])
                          rw [eC]; (first | (have g1 := (pv_b_n0 _).mp h35; rw [if_pos g1]; exact hM) | (have g1 := (pv_b_0 _).mp h35; rw [if_neg (by rw [g1]; decide)]; exact hM)))
                       | (have f1 := h9; have f2 := h21; have eC : w_knC J (J 1 f.toNatClampNeg) = w_body J 70 := by (unfold w_knC; rw [if_neg f1, if_pos f2])
                          rw [eC]; (first | (have g1 := (pv_b_n0 _).mp h35; rw [if_pos g1]; exact hM) | (have g1 := (pv_b_0 _).mp h35; rw [if_neg (by rw [g1]; decide)]; exact hM)))
                       | (have f1 := h9; have f2 := h21; have eC : w_knC J (J 1 f.toNatClampNeg) = J := by (unfold w_knC; rw [if_neg f1, if_neg f2])
                          rw [eC]; (first | (have g1 := (pv_b_n0 _).mp h35; rw [if_pos g1]; exact hM) | (have g1 := (pv_b_0 _).mp h35; rw [if_neg (by rw [g1]; decide)]; exact hM))))
            · refine pv_iload_4 (pc := 107) dX12_knotting_107 ?_
              refine pv_iconst (pc := 109) (v := 5) dX12_knotting_109 (by decide) ?_
              refine pv_ixor (pc := 110) dX12_knotting_110 ?_
              refine pv_goto (pc := 111) (tgt := 116) dX12_knotting_111 (by decide) ?_
              refine pv_iret (pc := 116) dX12_knotting_116 rfl rfl ?_
              first
                | (exfalso; first | (have f1 := h9; have f2 := h21; rw [f1] at f2; exact absurd f2 (by decide)) | exact h9 h91 | exact h91 h9 | exact h21 h104 | exact h104 h21 | (have f1 := h35; have f2 := h81; exact f1 f2) | (have f1 := h35; have f2 := h81; exact f2 f1) | (have f1 := h9; have f2 := h104; rw [f1] at f2; exact absurd f2 (by decide)) | (have f1 := h21; have f2 := h91; rw [f1] at f2; exact absurd f2 (by decide)))
                | (refine ⟨?_, rfl, rfl, rfl, ?_, hX⟩
                   · unfold w_knV
                     first
                       | (have f1 := h9; rw [if_pos f1]; unfold w_knT; (first | (have g1 := (pv_b_n0 _).mp h35; rw [if_pos g1]; rfl) | (have g1 := (pv_b_0 _).mp h35; rw [if_neg (by rw [g1]; decide)]; rfl)))
                       | (have f1 := h9; have f2 := h21; rw [if_neg f1, if_pos f2]; unfold w_knT; (first | (have g1 := (pv_b_n0 _).mp h35; rw [if_pos g1]; rfl) | (have g1 := (pv_b_0 _).mp h35; rw [if_neg (by rw [g1]; decide)]; rfl)))
                       | (have f1 := h9; have f2 := h21; rw [if_neg f1, if_neg f2]; unfold w_knT; (first | (have g1 := (pv_b_n0 _).mp h35; rw [if_pos g1]; rfl) | (have g1 := (pv_b_0 _).mp h35; rw [if_neg (by rw [g1]; decide)]; rfl)))
                   · unfold w_knB
                     first
                       | (have f1 := h9; have eC : w_knC J (J 1 f.toNatClampNeg) = w_body J 41 := by (unfold w_knC; rw [if_pos f1])
                          rw [eC]; (first | (have g1 := (pv_b_n0 _).mp h35; rw [if_pos g1]; exact hM) | (have g1 := (pv_b_0 _).mp h35; rw [if_neg (by rw [g1]; decide)]; exact hM)))
                       | (have f1 := h9; have f2 := h21; have eC : w_knC J (J 1 f.toNatClampNeg) = w_body J 70 := by (unfold w_knC; rw [if_neg f1, if_pos f2])
                          rw [eC]; (first | (have g1 := (pv_b_n0 _).mp h35; rw [if_pos g1]; exact hM) | (have g1 := (pv_b_0 _).mp h35; rw [if_neg (by rw [g1]; decide)]; exact hM)))
                       | (have f1 := h9; have f2 := h21; have eC : w_knC J (J 1 f.toNatClampNeg) = J := by (unfold w_knC; rw [if_neg f1, if_neg f2])
                          rw [eC]; (first | (have g1 := (pv_b_n0 _).mp h35; rw [if_pos g1]; exact hM) | (have g1 := (pv_b_0 _).mp h35; rw [if_neg (by rw [g1]; decide)]; exact hM))))
          · refine pv_iload_4 (pc := 94) dX12_knotting_94 ?_
            refine pv_iload_1 (pc := 96) dX12_knotting_96 ?_
            refine pv_isub (pc := 97) dX12_knotting_97 ?_
            refine pv_goto (pc := 98) (tgt := 116) dX12_knotting_98 (by decide) ?_
            refine pv_iret (pc := 116) dX12_knotting_116 rfl rfl ?_
            first
              | (exfalso; first | (have f1 := h9; have f2 := h21; rw [f1] at f2; exact absurd f2 (by decide)) | exact h9 h91 | exact h91 h9 | exact h21 h104 | exact h104 h21 | (have f1 := h35; have f2 := h81; exact f1 f2) | (have f1 := h35; have f2 := h81; exact f2 f1) | (have f1 := h9; have f2 := h104; rw [f1] at f2; exact absurd f2 (by decide)) | (have f1 := h21; have f2 := h91; rw [f1] at f2; exact absurd f2 (by decide)))
              | (refine ⟨?_, rfl, rfl, rfl, ?_, hX⟩
                 · unfold w_knV
                   first
                     | (have f1 := h9; rw [if_pos f1]; unfold w_knT; (first | (have g1 := (pv_b_n0 _).mp h35; rw [if_pos g1]; rfl) | (have g1 := (pv_b_0 _).mp h35; rw [if_neg (by rw [g1]; decide)]; rfl)))
                     | (have f1 := h9; have f2 := h21; rw [if_neg f1, if_pos f2]; unfold w_knT; (first | (have g1 := (pv_b_n0 _).mp h35; rw [if_pos g1]; rfl) | (have g1 := (pv_b_0 _).mp h35; rw [if_neg (by rw [g1]; decide)]; rfl)))
                     | (have f1 := h9; have f2 := h21; rw [if_neg f1, if_neg f2]; unfold w_knT; (first | (have g1 := (pv_b_n0 _).mp h35; rw [if_pos g1]; rfl) | (have g1 := (pv_b_0 _).mp h35; rw [if_neg (by rw [g1]; decide)]; rfl)))
                 · unfold w_knB
                   first
                     | (have f1 := h9; have eC : w_knC J (J 1 f.toNatClampNeg) = w_body J 41 := by (unfold w_knC; rw [if_pos f1])
                        rw [eC]; (first | (have g1 := (pv_b_n0 _).mp h35; rw [if_pos g1]; exact hM) | (have g1 := (pv_b_0 _).mp h35; rw [if_neg (by rw [g1]; decide)]; exact hM)))
                     | (have f1 := h9; have f2 := h21; have eC : w_knC J (J 1 f.toNatClampNeg) = w_body J 70 := by (unfold w_knC; rw [if_neg f1, if_pos f2])
                        rw [eC]; (first | (have g1 := (pv_b_n0 _).mp h35; rw [if_pos g1]; exact hM) | (have g1 := (pv_b_0 _).mp h35; rw [if_neg (by rw [g1]; decide)]; exact hM)))
                     | (have f1 := h9; have f2 := h21; have eC : w_knC J (J 1 f.toNatClampNeg) = J := by (unfold w_knC; rw [if_neg f1, if_neg f2])
                        rw [eC]; (first | (have g1 := (pv_b_n0 _).mp h35; rw [if_pos g1]; exact hM) | (have g1 := (pv_b_0 _).mp h35; rw [if_neg (by rw [g1]; decide)]; exact hM))))
        · refine pv_iload_4 (pc := 84) dX12_knotting_84 ?_
          refine pv_ineg (pc := 86) dX12_knotting_86 ?_
          refine pv_istore_4 (pc := 87) dX12_knotting_87 (by decide) rfl ?_
          refine pv_iload_3 (pc := 89) dX12_knotting_89 ?_
          refine pv_iconst (pc := 90) (v := 3) dX12_knotting_90 (by decide) ?_
          refine pv_icmp_ne (pc := 91) (tgt := 101) dX12_knotting_91 (by decide) (fun h91 => ?_) (fun h91 => ?_)
          · refine pv_iload_3 (pc := 101) dX12_knotting_101 ?_
            refine pv_bipush (pc := 102) (v := 6) dX12_knotting_102 (by decide) ?_
            refine pv_icmp_ne (pc := 104) (tgt := 114) dX12_knotting_104 (by decide) (fun h104 => ?_) (fun h104 => ?_)
            · refine pv_iload_4 (pc := 114) dX12_knotting_114 ?_
              refine pv_iret (pc := 116) dX12_knotting_116 rfl rfl ?_
              first
                | (exfalso; first | (have f1 := h9; have f2 := h21; rw [f1] at f2; exact absurd f2 (by decide)) | exact h9 h91 | exact h91 h9 | exact h21 h104 | exact h104 h21 | (have f1 := h35; have f2 := h81; exact f1 f2) | (have f1 := h35; have f2 := h81; exact f2 f1) | (have f1 := h9; have f2 := h104; rw [f1] at f2; exact absurd f2 (by decide)) | (have f1 := h21; have f2 := h91; rw [f1] at f2; exact absurd f2 (by decide)))
                | (refine ⟨?_, rfl, rfl, rfl, ?_, hX⟩
                   · unfold w_knV
                     first
                       | (have f1 := h9; rw [if_pos f1]; unfold w_knT; (first | (have g1 := (pv_b_n0 _).mp h35; rw [if_pos g1]; rfl) | (have g1 := (pv_b_0 _).mp h35; rw [if_neg (by rw [g1]; decide)]; rfl)))
                       | (have f1 := h9; have f2 := h21; rw [if_neg f1, if_pos f2]; unfold w_knT; (first | (have g1 := (pv_b_n0 _).mp h35; rw [if_pos g1]; rfl) | (have g1 := (pv_b_0 _).mp h35; rw [if_neg (by rw [g1]; decide)]; rfl)))
                       | (have f1 := h9; have f2 := h21; rw [if_neg f1, if_neg f2]; unfold w_knT; (first | (have g1 := (pv_b_n0 _).mp h35; rw [if_pos g1]; rfl) | (have g1 := (pv_b_0 _).mp h35; rw [if_neg (by rw [g1]; decide)]; rfl)))
                   · unfold w_knB
                     first
                       | (have f1 := h9; have eC : w_knC J (J 1 f.toNatClampNeg) = w_body J 41 := by (unfold w_knC; rw [if_pos f1])
                          rw [eC]; (first | (have g1 := (pv_b_n0 _).mp h35; rw [if_pos g1]; exact hM) | (have g1 := (pv_b_0 _).mp h35; rw [if_neg (by rw [g1]; decide)]; exact hM)))
                       | (have f1 := h9; have f2 := h21; have eC : w_knC J (J 1 f.toNatClampNeg) = w_body J 70 := by (unfold w_knC; rw [if_neg f1, if_pos f2])
                          rw [eC]; (first | (have g1 := (pv_b_n0 _).mp h35; rw [if_pos g1]; exact hM) | (have g1 := (pv_b_0 _).mp h35; rw [if_neg (by rw [g1]; decide)]; exact hM)))
                       | (have f1 := h9; have f2 := h21; have eC : w_knC J (J 1 f.toNatClampNeg) = J := by (unfold w_knC; rw [if_neg f1, if_neg f2])
                          rw [eC]; (first | (have g1 := (pv_b_n0 _).mp h35; rw [if_pos g1]; exact hM) | (have g1 := (pv_b_0 _).mp h35; rw [if_neg (by rw [g1]; decide)]; exact hM))))
            · refine pv_iload_4 (pc := 107) dX12_knotting_107 ?_
              refine pv_iconst (pc := 109) (v := 5) dX12_knotting_109 (by decide) ?_
              refine pv_ixor (pc := 110) dX12_knotting_110 ?_
              refine pv_goto (pc := 111) (tgt := 116) dX12_knotting_111 (by decide) ?_
              refine pv_iret (pc := 116) dX12_knotting_116 rfl rfl ?_
              first
                | (exfalso; first | (have f1 := h9; have f2 := h21; rw [f1] at f2; exact absurd f2 (by decide)) | exact h9 h91 | exact h91 h9 | exact h21 h104 | exact h104 h21 | (have f1 := h35; have f2 := h81; exact f1 f2) | (have f1 := h35; have f2 := h81; exact f2 f1) | (have f1 := h9; have f2 := h104; rw [f1] at f2; exact absurd f2 (by decide)) | (have f1 := h21; have f2 := h91; rw [f1] at f2; exact absurd f2 (by decide)))
                | (refine ⟨?_, rfl, rfl, rfl, ?_, hX⟩
                   · unfold w_knV
                     first
                       | (have f1 := h9; rw [if_pos f1]; unfold w_knT; (first | (have g1 := (pv_b_n0 _).mp h35; rw [if_pos g1]; rfl) | (have g1 := (pv_b_0 _).mp h35; rw [if_neg (by rw [g1]; decide)]; rfl)))
                       | (have f1 := h9; have f2 := h21; rw [if_neg f1, if_pos f2]; unfold w_knT; (first | (have g1 := (pv_b_n0 _).mp h35; rw [if_pos g1]; rfl) | (have g1 := (pv_b_0 _).mp h35; rw [if_neg (by rw [g1]; decide)]; rfl)))
                       | (have f1 := h9; have f2 := h21; rw [if_neg f1, if_neg f2]; unfold w_knT; (first | (have g1 := (pv_b_n0 _).mp h35; rw [if_pos g1]; rfl) | (have g1 := (pv_b_0 _).mp h35; rw [if_neg (by rw [g1]; decide)]; rfl)))
                   · unfold w_knB
                     first
                       | (have f1 := h9; have eC : w_knC J (J 1 f.toNatClampNeg) = w_body J 41 := by (unfold w_knC; rw [if_pos f1])
                          rw [eC]; (first | (have g1 := (pv_b_n0 _).mp h35; rw [if_pos g1]; exact hM) | (have g1 := (pv_b_0 _).mp h35; rw [if_neg (by rw [g1]; decide)]; exact hM)))
                       | (have f1 := h9; have f2 := h21; have eC : w_knC J (J 1 f.toNatClampNeg) = w_body J 70 := by (unfold w_knC; rw [if_neg f1, if_pos f2])
                          rw [eC]; (first | (have g1 := (pv_b_n0 _).mp h35; rw [if_pos g1]; exact hM) | (have g1 := (pv_b_0 _).mp h35; rw [if_neg (by rw [g1]; decide)]; exact hM)))
                       | (have f1 := h9; have f2 := h21; have eC : w_knC J (J 1 f.toNatClampNeg) = J := by (unfold w_knC; rw [if_neg f1, if_neg f2])
                          rw [eC]; (first | (have g1 := (pv_b_n0 _).mp h35; rw [if_pos g1]; exact hM) | (have g1 := (pv_b_0 _).mp h35; rw [if_neg (by rw [g1]; decide)]; exact hM))))
          · refine pv_iload_4 (pc := 94) dX12_knotting_94 ?_
            refine pv_iload_1 (pc := 96) dX12_knotting_96 ?_
            refine pv_isub (pc := 97) dX12_knotting_97 ?_
            refine pv_goto (pc := 98) (tgt := 116) dX12_knotting_98 (by decide) ?_
            refine pv_iret (pc := 116) dX12_knotting_116 rfl rfl ?_
            first
              | (exfalso; first | (have f1 := h9; have f2 := h21; rw [f1] at f2; exact absurd f2 (by decide)) | exact h9 h91 | exact h91 h9 | exact h21 h104 | exact h104 h21 | (have f1 := h35; have f2 := h81; exact f1 f2) | (have f1 := h35; have f2 := h81; exact f2 f1) | (have f1 := h9; have f2 := h104; rw [f1] at f2; exact absurd f2 (by decide)) | (have f1 := h21; have f2 := h91; rw [f1] at f2; exact absurd f2 (by decide)))
              | (refine ⟨?_, rfl, rfl, rfl, ?_, hX⟩
                 · unfold w_knV
                   first
                     | (have f1 := h9; rw [if_pos f1]; unfold w_knT; (first | (have g1 := (pv_b_n0 _).mp h35; rw [if_pos g1]; rfl) | (have g1 := (pv_b_0 _).mp h35; rw [if_neg (by rw [g1]; decide)]; rfl)))
                     | (have f1 := h9; have f2 := h21; rw [if_neg f1, if_pos f2]; unfold w_knT; (first | (have g1 := (pv_b_n0 _).mp h35; rw [if_pos g1]; rfl) | (have g1 := (pv_b_0 _).mp h35; rw [if_neg (by rw [g1]; decide)]; rfl)))
                     | (have f1 := h9; have f2 := h21; rw [if_neg f1, if_neg f2]; unfold w_knT; (first | (have g1 := (pv_b_n0 _).mp h35; rw [if_pos g1]; rfl) | (have g1 := (pv_b_0 _).mp h35; rw [if_neg (by rw [g1]; decide)]; rfl)))
                 · unfold w_knB
                   first
                     | (have f1 := h9; have eC : w_knC J (J 1 f.toNatClampNeg) = w_body J 41 := by (unfold w_knC; rw [if_pos f1])
                        rw [eC]; (first | (have g1 := (pv_b_n0 _).mp h35; rw [if_pos g1]; exact hM) | (have g1 := (pv_b_0 _).mp h35; rw [if_neg (by rw [g1]; decide)]; exact hM)))
                     | (have f1 := h9; have f2 := h21; have eC : w_knC J (J 1 f.toNatClampNeg) = w_body J 70 := by (unfold w_knC; rw [if_neg f1, if_pos f2])
                        rw [eC]; (first | (have g1 := (pv_b_n0 _).mp h35; rw [if_pos g1]; exact hM) | (have g1 := (pv_b_0 _).mp h35; rw [if_neg (by rw [g1]; decide)]; exact hM)))
                     | (have f1 := h9; have f2 := h21; have eC : w_knC J (J 1 f.toNatClampNeg) = J := by (unfold w_knC; rw [if_neg f1, if_neg f2])
                        rw [eC]; (first | (have g1 := (pv_b_n0 _).mp h35; rw [if_pos g1]; exact hM) | (have g1 := (pv_b_0 _).mp h35; rw [if_neg (by rw [g1]; decide)]; exact hM))))
  · refine pv_aload_0 (pc := 12) dX12_knotting_12 ?_
    refine pv_bipush (pc := 13) (v := 41) dX12_knotting_13 (by decide) ?_
    refine pv_callVq (pc := 15) dX12_knotting_15 mgX12_body lv_X12_396_12 (by decide) (sx_61 hT) (by omega) (c_X12_body hT hR hM ⟨hr.1, by have := hr.2; omega⟩) rfl rfl (by decide) (fun v t I L Rf hq => ?_)
    obtain ⟨rfl, rfl, rfl, rfl, hM, hX2⟩ := hq
    have hX := hX.tr hX2
    have hr := body_n (b := 41) hr (by omega)
    have hW := body_wf (b := 41) hW
    refine pv_iload_3 (pc := 18) dX12_knotting_18 ?_
    refine pv_bipush (pc := 19) (v := 6) dX12_knotting_19 (by decide) ?_
    refine pv_icmp_ne (pc := 21) (tgt := 30) dX12_knotting_21 (by decide) (fun h21 => ?_) (fun h21 => ?_)
    · refine pv_aload_0 (pc := 30) dX12_knotting_30 ?_
      refine pv_iload_3 (pc := 31) dX12_knotting_31 ?_
      refine pv_callV1 (pc := 32) dX12_knotting_32 mgX12_isTurn lv_X12_125_12 (by decide) (sx_61 hT) (by omega) (c_X12_isTurn ) rfl rfl (by decide) ?_
      refine pv_if_eq (pc := 35) (tgt := 44) dX12_knotting_35 (by decide) (fun h35 => ?_) (fun h35 => ?_)
      · refine pv_aload_0 (pc := 44) dX12_knotting_44 ?_
        refine pv_bipush (pc := 45) (v := 12) dX12_knotting_45 (by decide) ?_
        refine pv_callVq (pc := 47) dX12_knotting_47 mgX12_body lv_X12_396_12 (by decide) (sx_61 hT) (by omega) (c_X12_body hT hR hM ⟨hr.1, by have := hr.2; omega⟩) rfl rfl (by decide) (fun v t I L Rf hq => ?_)
        obtain ⟨rfl, rfl, rfl, rfl, hM, hX2⟩ := hq
        have hX := hX.tr hX2
        have hr := body_n (b := 12) hr (by omega)
        have hW := body_wf (b := 12) hW
        refine pv_aload_0 (pc := 50) dX12_knotting_50 ?_
        refine pv_iload_1 (pc := 51) dX12_knotting_51 ?_
        refine pv_iload_2 (pc := 52) dX12_knotting_52 ?_
        refine pv_callVq (pc := 53) dX12_knotting_53 mgX12_stepping lv_X12_402_12 (by decide) (sx_61 hT) (by omega) (c_X12_stepping hT hR hW hM hF hr (by omega) (by omega)) rfl rfl (by decide) (fun v t I L Rf hq => ?_)
        obtain ⟨rfl, rfl, rfl, rfl, hM, hX2⟩ := hq
        have hX := hX.tr hX2
        have hr := body_n5 (k := J 1 f.toNatClampNeg) hr (by omega)
        have hW := stB_wf (k := J 1 f.toNatClampNeg) hW
        refine pv_istore_4 (pc := 56) dX12_knotting_56 (by decide) rfl ?_
        refine pv_iload_4 (pc := 58) dX12_knotting_58 ?_
        refine pv_aload_0 (pc := 60) dX12_knotting_60 ?_
        refine pv_iload_1 (pc := 61) dX12_knotting_61 ?_
        refine pv_iload_2 (pc := 62) dX12_knotting_62 ?_
        refine pv_aload_0 (pc := 63) dX12_knotting_63 ?_
        refine pv_getR (pc := 64) dX12_knotting_64 fg_X12_27_12 rfl (by decide) (sx_61 hT) (rx_61_9 hR) ?_
        refine pv_iload_1 (pc := 67) dX12_knotting_67 ?_
        refine pv_ialoadj (pc := 68) dX12_knotting_68 (sx_64 hT) rfl h8 ?_
        refine pv_topv2 (y := J 2 f.toNatClampNeg) (by have e := (hM.2.1 f.toNatClampNeg (by rw [w_stB_1 _ _ 0 0 (by decide) (by decide)]; exact hn)).2.1; rw [w_stB_1 _ _ 2 _ (by decide) (by omega)] at e; exact e) ?_
        refine pv_isub (pc := 69) dX12_knotting_69 ?_
        refine pv_callVq (pc := 70) dX12_knotting_70 mgX12_calling lv_X12_399_12 (by decide) (sx_61 hT) (by omega) (c_X12_calling hT hR hW hM (by unfold w_isF; rw [w_stB_1 _ _ 0 0 (by decide) (by decide)]; exact hF) hr (by omega) (by omega)) rfl rfl (Nat.le_of_ble_eq_true rfl) (fun v t I L Rf hq => ?_)
        obtain ⟨rfl, rfl, rfl, rfl, hM, hX2⟩ := hq
        have hX := hX.tr hX2
        rw [w_calV_s]
        rw [w_stB_1 _ _ 1 _ (by decide) (by omega)] at hM
        refine pv_ixor (pc := 73) dX12_knotting_73 ?_
        refine pv_istore_4 (pc := 74) dX12_knotting_74 (by decide) rfl ?_
        refine pv_aload_0 (pc := 76) dX12_knotting_76 ?_
        refine pv_iload_3 (pc := 77) dX12_knotting_77 ?_
        refine pv_callV1 (pc := 78) dX12_knotting_78 mgX12_isTurn lv_X12_125_12 (by decide) (sx_61 hT) (by omega) (c_X12_isTurn ) rfl rfl (by decide) ?_
        refine pv_if_eq (pc := 81) (tgt := 89) dX12_knotting_81 (by decide) (fun h81 => ?_) (fun h81 => ?_)
        · refine pv_iload_3 (pc := 89) dX12_knotting_89 ?_
          refine pv_iconst (pc := 90) (v := 3) dX12_knotting_90 (by decide) ?_
          refine pv_icmp_ne (pc := 91) (tgt := 101) dX12_knotting_91 (by decide) (fun h91 => ?_) (fun h91 => ?_)
          · refine pv_iload_3 (pc := 101) dX12_knotting_101 ?_
            refine pv_bipush (pc := 102) (v := 6) dX12_knotting_102 (by decide) ?_
            refine pv_icmp_ne (pc := 104) (tgt := 114) dX12_knotting_104 (by decide) (fun h104 => ?_) (fun h104 => ?_)
            · refine pv_iload_4 (pc := 114) dX12_knotting_114 ?_
              refine pv_iret (pc := 116) dX12_knotting_116 rfl rfl ?_
              first
                | (exfalso; first | (have f1 := h9; have f2 := h21; rw [f1] at f2; exact absurd f2 (by decide)) | exact h9 h91 | exact h91 h9 | exact h21 h104 | exact h104 h21 | (have f1 := h35; have f2 := h81; exact f1 f2) | (have f1 := h35; have f2 := h81; exact f2 f1) | (have f1 := h9; have f2 := h104; rw [f1] at f2; exact absurd f2 (by decide)) | (have f1 := h21; have f2 := h91; rw [f1] at f2; exact absurd f2 (by decide)))
                | (refine ⟨?_, rfl, rfl, rfl, ?_, hX⟩
                   · unfold w_knV
                     first
                       | (have f1 := h9; rw [if_pos f1]; unfold w_knT; (first | (have g1 := (pv_b_n0 _).mp h35; rw [if_pos g1]; rfl) | (have g1 := (pv_b_0 _).mp h35; rw [if_neg (by rw [g1]; decide)]; rfl)))
                       | (have f1 := h9; have f2 := h21; rw [if_neg f1, if_pos f2]; unfold w_knT; (first | (have g1 := (pv_b_n0 _).mp h35; rw [if_pos g1]; rfl) | (have g1 := (pv_b_0 _).mp h35; rw [if_neg (by rw [g1]; decide)]; rfl)))
                       | (have f1 := h9; have f2 := h21; rw [if_neg f1, if_neg f2]; unfold w_knT; (first | (have g1 := (pv_b_n0 _).mp h35; rw [if_pos g1]; rfl) | (have g1 := (pv_b_0 _).mp h35; rw [if_neg (by rw [g1]; decide)]; rfl)))
                   · unfold w_knB
                     first
                       | (have f1 := h9; have eC : w_knC J (J 1 f.toNatClampNeg) = w_body J 41 := by (unfold w_knC; rw [if_pos f1])
                          rw [eC]; (first | (have g1 := (pv_b_n0 _).mp h35; rw [if_pos g1]; exact hM) | (have g1 := (pv_b_0 _).mp h35; rw [if_neg (by rw [g1]; decide)]; exact hM)))
                       | (have f1 := h9; have f2 := h21; have eC : w_knC J (J 1 f.toNatClampNeg) = w_body J 70 := by (unfold w_knC; rw [if_neg f1, if_pos f2])
                          rw [eC]; (first | (have g1 := (pv_b_n0 _).mp h35; rw [if_pos g1]; exact hM) | (have g1 := (pv_b_0 _).mp h35; rw [if_neg (by rw [g1]; decide)]; exact hM)))
                       | (have f1 := h9; have f2 := h21; have eC : w_knC J (J 1 f.toNatClampNeg) = J := by (unfold w_knC; rw [if_neg f1, if_neg f2])
                          rw [eC]; (first | (have g1 := (pv_b_n0 _).mp h35; rw [if_pos g1]; exact hM) | (have g1 := (pv_b_0 _).mp h35; rw [if_neg (by rw [g1]; decide)]; exact hM))))
            · refine pv_iload_4 (pc := 107) dX12_knotting_107 ?_
              refine pv_iconst (pc := 109) (v := 5) dX12_knotting_109 (by decide) ?_
              refine pv_ixor (pc := 110) dX12_knotting_110 ?_
              refine pv_goto (pc := 111) (tgt := 116) dX12_knotting_111 (by decide) ?_
              refine pv_iret (pc := 116) dX12_knotting_116 rfl rfl ?_
              first
                | (exfalso; first | (have f1 := h9; have f2 := h21; rw [f1] at f2; exact absurd f2 (by decide)) | exact h9 h91 | exact h91 h9 | exact h21 h104 | exact h104 h21 | (have f1 := h35; have f2 := h81; exact f1 f2) | (have f1 := h35; have f2 := h81; exact f2 f1) | (have f1 := h9; have f2 := h104; rw [f1] at f2; exact absurd f2 (by decide)) | (have f1 := h21; have f2 := h91; rw [f1] at f2; exact absurd f2 (by decide)))
                | (refine ⟨?_, rfl, rfl, rfl, ?_, hX⟩
                   · unfold w_knV
                     first
                       | (have f1 := h9; rw [if_pos f1]; unfold w_knT; (first | (have g1 := (pv_b_n0 _).mp h35; rw [if_pos g1]; rfl) | (have g1 := (pv_b_0 _).mp h35; rw [if_neg (by rw [g1]; decide)]; rfl)))
                       | (have f1 := h9; have f2 := h21; rw [if_neg f1, if_pos f2]; unfold w_knT; (first | (have g1 := (pv_b_n0 _).mp h35; rw [if_pos g1]; rfl) | (have g1 := (pv_b_0 _).mp h35; rw [if_neg (by rw [g1]; decide)]; rfl)))
                       | (have f1 := h9; have f2 := h21; rw [if_neg f1, if_neg f2]; unfold w_knT; (first | (have g1 := (pv_b_n0 _).mp h35; rw [if_pos g1]; rfl) | (have g1 := (pv_b_0 _).mp h35; rw [if_neg (by rw [g1]; decide)]; rfl)))
                   · unfold w_knB
                     first
                       | (have f1 := h9; have eC : w_knC J (J 1 f.toNatClampNeg) = w_body J 41 := by (unfold w_knC; rw [if_pos f1])
                          rw [eC]; (first | (have g1 := (pv_b_n0 _).mp h35; rw [if_pos g1]; exact hM) | (have g1 := (pv_b_0 _).mp h35; rw [if_neg (by rw [g1]; decide)]; exact hM)))
                       | (have f1 := h9; have f2 := h21; have eC : w_knC J (J 1 f.toNatClampNeg) = w_body J 70 := by (unfold w_knC; rw [if_neg f1, if_pos f2])
                          rw [eC]; (first | (have g1 := (pv_b_n0 _).mp h35; rw [if_pos g1]; exact hM) | (have g1 := (pv_b_0 _).mp h35; rw [if_neg (by rw [g1]; decide)]; exact hM)))
                       | (have f1 := h9; have f2 := h21; have eC : w_knC J (J 1 f.toNatClampNeg) = J := by (unfold w_knC; rw [if_neg f1, if_neg f2])
                          rw [eC]; (first | (have g1 := (pv_b_n0 _).mp h35; rw [if_pos g1]; exact hM) | (have g1 := (pv_b_0 _).mp h35; rw [if_neg (by rw [g1]; decide)]; exact hM))))
          · refine pv_iload_4 (pc := 94) dX12_knotting_94 ?_
            refine pv_iload_1 (pc := 96) dX12_knotting_96 ?_
            refine pv_isub (pc := 97) dX12_knotting_97 ?_
            refine pv_goto (pc := 98) (tgt := 116) dX12_knotting_98 (by decide) ?_
            refine pv_iret (pc := 116) dX12_knotting_116 rfl rfl ?_
            first
              | (exfalso; first | (have f1 := h9; have f2 := h21; rw [f1] at f2; exact absurd f2 (by decide)) | exact h9 h91 | exact h91 h9 | exact h21 h104 | exact h104 h21 | (have f1 := h35; have f2 := h81; exact f1 f2) | (have f1 := h35; have f2 := h81; exact f2 f1) | (have f1 := h9; have f2 := h104; rw [f1] at f2; exact absurd f2 (by decide)) | (have f1 := h21; have f2 := h91; rw [f1] at f2; exact absurd f2 (by decide)))
              | (refine ⟨?_, rfl, rfl, rfl, ?_, hX⟩
                 · unfold w_knV
                   first
                     | (have f1 := h9; rw [if_pos f1]; unfold w_knT; (first | (have g1 := (pv_b_n0 _).mp h35; rw [if_pos g1]; rfl) | (have g1 := (pv_b_0 _).mp h35; rw [if_neg (by rw [g1]; decide)]; rfl)))
                     | (have f1 := h9; have f2 := h21; rw [if_neg f1, if_pos f2]; unfold w_knT; (first | (have g1 := (pv_b_n0 _).mp h35; rw [if_pos g1]; rfl) | (have g1 := (pv_b_0 _).mp h35; rw [if_neg (by rw [g1]; decide)]; rfl)))
                     | (have f1 := h9; have f2 := h21; rw [if_neg f1, if_neg f2]; unfold w_knT; (first | (have g1 := (pv_b_n0 _).mp h35; rw [if_pos g1]; rfl) | (have g1 := (pv_b_0 _).mp h35; rw [if_neg (by rw [g1]; decide)]; rfl)))
                 · unfold w_knB
                   first
                     | (have f1 := h9; have eC : w_knC J (J 1 f.toNatClampNeg) = w_body J 41 := by (unfold w_knC; rw [if_pos f1])
                        rw [eC]; (first | (have g1 := (pv_b_n0 _).mp h35; rw [if_pos g1]; exact hM) | (have g1 := (pv_b_0 _).mp h35; rw [if_neg (by rw [g1]; decide)]; exact hM)))
                     | (have f1 := h9; have f2 := h21; have eC : w_knC J (J 1 f.toNatClampNeg) = w_body J 70 := by (unfold w_knC; rw [if_neg f1, if_pos f2])
                        rw [eC]; (first | (have g1 := (pv_b_n0 _).mp h35; rw [if_pos g1]; exact hM) | (have g1 := (pv_b_0 _).mp h35; rw [if_neg (by rw [g1]; decide)]; exact hM)))
                     | (have f1 := h9; have f2 := h21; have eC : w_knC J (J 1 f.toNatClampNeg) = J := by (unfold w_knC; rw [if_neg f1, if_neg f2])
                        rw [eC]; (first | (have g1 := (pv_b_n0 _).mp h35; rw [if_pos g1]; exact hM) | (have g1 := (pv_b_0 _).mp h35; rw [if_neg (by rw [g1]; decide)]; exact hM))))
        · refine pv_iload_4 (pc := 84) dX12_knotting_84 ?_
          refine pv_ineg (pc := 86) dX12_knotting_86 ?_
          refine pv_istore_4 (pc := 87) dX12_knotting_87 (by decide) rfl ?_
          refine pv_iload_3 (pc := 89) dX12_knotting_89 ?_
          refine pv_iconst (pc := 90) (v := 3) dX12_knotting_90 (by decide) ?_
          refine pv_icmp_ne (pc := 91) (tgt := 101) dX12_knotting_91 (by decide) (fun h91 => ?_) (fun h91 => ?_)
          · refine pv_iload_3 (pc := 101) dX12_knotting_101 ?_
            refine pv_bipush (pc := 102) (v := 6) dX12_knotting_102 (by decide) ?_
            refine pv_icmp_ne (pc := 104) (tgt := 114) dX12_knotting_104 (by decide) (fun h104 => ?_) (fun h104 => ?_)
            · refine pv_iload_4 (pc := 114) dX12_knotting_114 ?_
              refine pv_iret (pc := 116) dX12_knotting_116 rfl rfl ?_
              first
                | (exfalso; first | (have f1 := h9; have f2 := h21; rw [f1] at f2; exact absurd f2 (by decide)) | exact h9 h91 | exact h91 h9 | exact h21 h104 | exact h104 h21 | (have f1 := h35; have f2 := h81; exact f1 f2) | (have f1 := h35; have f2 := h81; exact f2 f1) | (have f1 := h9; have f2 := h104; rw [f1] at f2; exact absurd f2 (by decide)) | (have f1 := h21; have f2 := h91; rw [f1] at f2; exact absurd f2 (by decide)))
                | (refine ⟨?_, rfl, rfl, rfl, ?_, hX⟩
                   · unfold w_knV
                     first
                       | (have f1 := h9; rw [if_pos f1]; unfold w_knT; (first | (have g1 := (pv_b_n0 _).mp h35; rw [if_pos g1]; rfl) | (have g1 := (pv_b_0 _).mp h35; rw [if_neg (by rw [g1]; decide)]; rfl)))
                       | (have f1 := h9; have f2 := h21; rw [if_neg f1, if_pos f2]; unfold w_knT; (first | (have g1 := (pv_b_n0 _).mp h35; rw [if_pos g1]; rfl) | (have g1 := (pv_b_0 _).mp h35; rw [if_neg (by rw [g1]; decide)]; rfl)))
                       | (have f1 := h9; have f2 := h21; rw [if_neg f1, if_neg f2]; unfold w_knT; (first | (have g1 := (pv_b_n0 _).mp h35; rw [if_pos g1]; rfl) | (have g1 := (pv_b_0 _).mp h35; rw [if_neg (by rw [g1]; decide)]; rfl)))
                   · unfold w_knB
                     first
                       | (have f1 := h9; have eC : w_knC J (J 1 f.toNatClampNeg) = w_body J 41 := by (unfold w_knC; rw [if_pos f1])
                          rw [eC]; (first | (have g1 := (pv_b_n0 _).mp h35; rw [if_pos g1]; exact hM) | (have g1 := (pv_b_0 _).mp h35; rw [if_neg (by rw [g1]; decide)]; exact hM)))
                       | (have f1 := h9; have f2 := h21; have eC : w_knC J (J 1 f.toNatClampNeg) = w_body J 70 := by (unfold w_knC; rw [if_neg f1, if_pos f2])
                          rw [eC]; (first | (have g1 := (pv_b_n0 _).mp h35; rw [if_pos g1]; exact hM) | (have g1 := (pv_b_0 _).mp h35; rw [if_neg (by rw [g1]; decide)]; exact hM)))
                       | (have f1 := h9; have f2 := h21; have eC : w_knC J (J 1 f.toNatClampNeg) = J := by (unfold w_knC; rw [if_neg f1, if_neg f2])
                          rw [eC]; (first | (have g1 := (pv_b_n0 _).mp h35; rw [if_pos g1]; exact hM) | (have g1 := (pv_b_0 _).mp h35; rw [if_neg (by rw [g1]; decide)]; exact hM))))
            · refine pv_iload_4 (pc := 107) dX12_knotting_107 ?_
              refine pv_iconst (pc := 109) (v := 5) dX12_knotting_109 (by decide) ?_
              refine pv_ixor (pc := 110) dX12_knotting_110 ?_
              refine pv_goto (pc := 111) (tgt := 116) dX12_knotting_111 (by decide) ?_
              refine pv_iret (pc := 116) dX12_knotting_116 rfl rfl ?_
              first
                | (exfalso; first | (have f1 := h9; have f2 := h21; rw [f1] at f2; exact absurd f2 (by decide)) | exact h9 h91 | exact h91 h9 | exact h21 h104 | exact h104 h21 | (have f1 := h35; have f2 := h81; exact f1 f2) | (have f1 := h35; have f2 := h81; exact f2 f1) | (have f1 := h9; have f2 := h104; rw [f1] at f2; exact absurd f2 (by decide)) | (have f1 := h21; have f2 := h91; rw [f1] at f2; exact absurd f2 (by decide)))
                | (refine ⟨?_, rfl, rfl, rfl, ?_, hX⟩
                   · unfold w_knV
                     first
                       | (have f1 := h9; rw [if_pos f1]; unfold w_knT; (first | (have g1 := (pv_b_n0 _).mp h35; rw [if_pos g1]; rfl) | (have g1 := (pv_b_0 _).mp h35; rw [if_neg (by rw [g1]; decide)]; rfl)))
                       | (have f1 := h9; have f2 := h21; rw [if_neg f1, if_pos f2]; unfold w_knT; (first | (have g1 := (pv_b_n0 _).mp h35; rw [if_pos g1]; rfl) | (have g1 := (pv_b_0 _).mp h35; rw [if_neg (by rw [g1]; decide)]; rfl)))
                       | (have f1 := h9; have f2 := h21; rw [if_neg f1, if_neg f2]; unfold w_knT; (first | (have g1 := (pv_b_n0 _).mp h35; rw [if_pos g1]; rfl) | (have g1 := (pv_b_0 _).mp h35; rw [if_neg (by rw [g1]; decide)]; rfl)))
                   · unfold w_knB
                     first
                       | (have f1 := h9; have eC : w_knC J (J 1 f.toNatClampNeg) = w_body J 41 := by (unfold w_knC; rw [if_pos f1])
                          rw [eC]; (first | (have g1 := (pv_b_n0 _).mp h35; rw [if_pos g1]; exact hM) | (have g1 := (pv_b_0 _).mp h35; rw [if_neg (by rw [g1]; decide)]; exact hM)))
                       | (have f1 := h9; have f2 := h21; have eC : w_knC J (J 1 f.toNatClampNeg) = w_body J 70 := by (unfold w_knC; rw [if_neg f1, if_pos f2])
                          rw [eC]; (first | (have g1 := (pv_b_n0 _).mp h35; rw [if_pos g1]; exact hM) | (have g1 := (pv_b_0 _).mp h35; rw [if_neg (by rw [g1]; decide)]; exact hM)))
                       | (have f1 := h9; have f2 := h21; have eC : w_knC J (J 1 f.toNatClampNeg) = J := by (unfold w_knC; rw [if_neg f1, if_neg f2])
                          rw [eC]; (first | (have g1 := (pv_b_n0 _).mp h35; rw [if_pos g1]; exact hM) | (have g1 := (pv_b_0 _).mp h35; rw [if_neg (by rw [g1]; decide)]; exact hM))))
          · refine pv_iload_4 (pc := 94) dX12_knotting_94 ?_
            refine pv_iload_1 (pc := 96) dX12_knotting_96 ?_
            refine pv_isub (pc := 97) dX12_knotting_97 ?_
            refine pv_goto (pc := 98) (tgt := 116) dX12_knotting_98 (by decide) ?_
            refine pv_iret (pc := 116) dX12_knotting_116 rfl rfl ?_
            first
              | (exfalso; first | (have f1 := h9; have f2 := h21; rw [f1] at f2; exact absurd f2 (by decide)) | exact h9 h91 | exact h91 h9 | exact h21 h104 | exact h104 h21 | (have f1 := h35; have f2 := h81; exact f1 f2) | (have f1 := h35; have f2 := h81; exact f2 f1) | (have f1 := h9; have f2 := h104; rw [f1] at f2; exact absurd f2 (by decide)) | (have f1 := h21; have f2 := h91; rw [f1] at f2; exact absurd f2 (by decide)))
              | (refine ⟨?_, rfl, rfl, rfl, ?_, hX⟩
                 · unfold w_knV
                   first
                     | (have f1 := h9; rw [if_pos f1]; unfold w_knT; (first | (have g1 := (pv_b_n0 _).mp h35; rw [if_pos g1]; rfl) | (have g1 := (pv_b_0 _).mp h35; rw [if_neg (by rw [g1]; decide)]; rfl)))
                     | (have f1 := h9; have f2 := h21; rw [if_neg f1, if_pos f2]; unfold w_knT; (first | (have g1 := (pv_b_n0 _).mp h35; rw [if_pos g1]; rfl) | (have g1 := (pv_b_0 _).mp h35; rw [if_neg (by rw [g1]; decide)]; rfl)))
                     | (have f1 := h9; have f2 := h21; rw [if_neg f1, if_neg f2]; unfold w_knT; (first | (have g1 := (pv_b_n0 _).mp h35; rw [if_pos g1]; rfl) | (have g1 := (pv_b_0 _).mp h35; rw [if_neg (by rw [g1]; decide)]; rfl)))
                 · unfold w_knB
                   first
                     | (have f1 := h9; have eC : w_knC J (J 1 f.toNatClampNeg) = w_body J 41 := by (unfold w_knC; rw [if_pos f1])
                        rw [eC]; (first | (have g1 := (pv_b_n0 _).mp h35; rw [if_pos g1]; exact hM) | (have g1 := (pv_b_0 _).mp h35; rw [if_neg (by rw [g1]; decide)]; exact hM)))
                     | (have f1 := h9; have f2 := h21; have eC : w_knC J (J 1 f.toNatClampNeg) = w_body J 70 := by (unfold w_knC; rw [if_neg f1, if_pos f2])
                        rw [eC]; (first | (have g1 := (pv_b_n0 _).mp h35; rw [if_pos g1]; exact hM) | (have g1 := (pv_b_0 _).mp h35; rw [if_neg (by rw [g1]; decide)]; exact hM)))
                     | (have f1 := h9; have f2 := h21; have eC : w_knC J (J 1 f.toNatClampNeg) = J := by (unfold w_knC; rw [if_neg f1, if_neg f2])
                        rw [eC]; (first | (have g1 := (pv_b_n0 _).mp h35; rw [if_pos g1]; exact hM) | (have g1 := (pv_b_0 _).mp h35; rw [if_neg (by rw [g1]; decide)]; exact hM))))
      · refine pv_aload_0 (pc := 38) dX12_knotting_38 ?_
        refine pv_bipush (pc := 39) (v := 50) dX12_knotting_39 (by decide) ?_
        refine pv_callVq (pc := 41) dX12_knotting_41 mgX12_body lv_X12_396_12 (by decide) (sx_61 hT) (by omega) (c_X12_body hT hR hM ⟨hr.1, by have := hr.2; omega⟩) rfl rfl (by decide) (fun v t I L Rf hq => ?_)
        obtain ⟨rfl, rfl, rfl, rfl, hM, hX2⟩ := hq
        have hX := hX.tr hX2
        have hr := body_n (b := 50) hr (by omega)
        have hW := body_wf (b := 50) hW
        refine pv_aload_0 (pc := 44) dX12_knotting_44 ?_
        refine pv_bipush (pc := 45) (v := 12) dX12_knotting_45 (by decide) ?_
        refine pv_callVq (pc := 47) dX12_knotting_47 mgX12_body lv_X12_396_12 (by decide) (sx_61 hT) (by omega) (c_X12_body hT hR hM ⟨hr.1, by have := hr.2; omega⟩) rfl rfl (by decide) (fun v t I L Rf hq => ?_)
        obtain ⟨rfl, rfl, rfl, rfl, hM, hX2⟩ := hq
        have hX := hX.tr hX2
        have hr := body_n (b := 12) hr (by omega)
        have hW := body_wf (b := 12) hW
        refine pv_aload_0 (pc := 50) dX12_knotting_50 ?_
        refine pv_iload_1 (pc := 51) dX12_knotting_51 ?_
        refine pv_iload_2 (pc := 52) dX12_knotting_52 ?_
        refine pv_callVq (pc := 53) dX12_knotting_53 mgX12_stepping lv_X12_402_12 (by decide) (sx_61 hT) (by omega) (c_X12_stepping hT hR hW hM hF hr (by omega) (by omega)) rfl rfl (by decide) (fun v t I L Rf hq => ?_)
        obtain ⟨rfl, rfl, rfl, rfl, hM, hX2⟩ := hq
        have hX := hX.tr hX2
        have hr := body_n5 (k := J 1 f.toNatClampNeg) hr (by omega)
        have hW := stB_wf (k := J 1 f.toNatClampNeg) hW
        refine pv_istore_4 (pc := 56) dX12_knotting_56 (by decide) rfl ?_
        refine pv_iload_4 (pc := 58) dX12_knotting_58 ?_
        refine pv_aload_0 (pc := 60) dX12_knotting_60 ?_
        refine pv_iload_1 (pc := 61) dX12_knotting_61 ?_
        refine pv_iload_2 (pc := 62) dX12_knotting_62 ?_
        refine pv_aload_0 (pc := 63) dX12_knotting_63 ?_
        refine pv_getR (pc := 64) dX12_knotting_64 fg_X12_27_12 rfl (by decide) (sx_61 hT) (rx_61_9 hR) ?_
        refine pv_iload_1 (pc := 67) dX12_knotting_67 ?_
        refine pv_ialoadj (pc := 68) dX12_knotting_68 (sx_64 hT) rfl h8 ?_
        refine pv_topv2 (y := J 2 f.toNatClampNeg) (by have e := (hM.2.1 f.toNatClampNeg (by rw [w_stB_1 _ _ 0 0 (by decide) (by decide)]; exact hn)).2.1; rw [w_stB_1 _ _ 2 _ (by decide) (by omega)] at e; exact e) ?_
        refine pv_isub (pc := 69) dX12_knotting_69 ?_
        refine pv_callVq (pc := 70) dX12_knotting_70 mgX12_calling lv_X12_399_12 (by decide) (sx_61 hT) (by omega) (c_X12_calling hT hR hW hM (by unfold w_isF; rw [w_stB_1 _ _ 0 0 (by decide) (by decide)]; exact hF) hr (by omega) (by omega)) rfl rfl (Nat.le_of_ble_eq_true rfl) (fun v t I L Rf hq => ?_)
        obtain ⟨rfl, rfl, rfl, rfl, hM, hX2⟩ := hq
        have hX := hX.tr hX2
        rw [w_calV_s]
        rw [w_stB_1 _ _ 1 _ (by decide) (by omega)] at hM
        refine pv_ixor (pc := 73) dX12_knotting_73 ?_
        refine pv_istore_4 (pc := 74) dX12_knotting_74 (by decide) rfl ?_
        refine pv_aload_0 (pc := 76) dX12_knotting_76 ?_
        refine pv_iload_3 (pc := 77) dX12_knotting_77 ?_
        refine pv_callV1 (pc := 78) dX12_knotting_78 mgX12_isTurn lv_X12_125_12 (by decide) (sx_61 hT) (by omega) (c_X12_isTurn ) rfl rfl (by decide) ?_
        refine pv_if_eq (pc := 81) (tgt := 89) dX12_knotting_81 (by decide) (fun h81 => ?_) (fun h81 => ?_)
        · refine pv_iload_3 (pc := 89) dX12_knotting_89 ?_
          refine pv_iconst (pc := 90) (v := 3) dX12_knotting_90 (by decide) ?_
          refine pv_icmp_ne (pc := 91) (tgt := 101) dX12_knotting_91 (by decide) (fun h91 => ?_) (fun h91 => ?_)
          · refine pv_iload_3 (pc := 101) dX12_knotting_101 ?_
            refine pv_bipush (pc := 102) (v := 6) dX12_knotting_102 (by decide) ?_
            refine pv_icmp_ne (pc := 104) (tgt := 114) dX12_knotting_104 (by decide) (fun h104 => ?_) (fun h104 => ?_)
            · refine pv_iload_4 (pc := 114) dX12_knotting_114 ?_
              refine pv_iret (pc := 116) dX12_knotting_116 rfl rfl ?_
              first
                | (exfalso; first | (have f1 := h9; have f2 := h21; rw [f1] at f2; exact absurd f2 (by decide)) | exact h9 h91 | exact h91 h9 | exact h21 h104 | exact h104 h21 | (have f1 := h35; have f2 := h81; exact f1 f2) | (have f1 := h35; have f2 := h81; exact f2 f1) | (have f1 := h9; have f2 := h104; rw [f1] at f2; exact absurd f2 (by decide)) | (have f1 := h21; have f2 := h91; rw [f1] at f2; exact absurd f2 (by decide)))
                | (refine ⟨?_, rfl, rfl, rfl, ?_, hX⟩
                   · unfold w_knV
                     first
                       | (have f1 := h9; rw [if_pos f1]; unfold w_knT; (first | (have g1 := (pv_b_n0 _).mp h35; rw [if_pos g1]; rfl) | (have g1 := (pv_b_0 _).mp h35; rw [if_neg (by rw [g1]; decide)]; rfl)))
                       | (have f1 := h9; have f2 := h21; rw [if_neg f1, if_pos f2]; unfold w_knT; (first | (have g1 := (pv_b_n0 _).mp h35; rw [if_pos g1]; rfl) | (have g1 := (pv_b_0 _).mp h35; rw [if_neg (by rw [g1]; decide)]; rfl)))
                       | (have f1 := h9; have f2 := h21; rw [if_neg f1, if_neg f2]; unfold w_knT; (first | (have g1 := (pv_b_n0 _).mp h35; rw [if_pos g1]; rfl) | (have g1 := (pv_b_0 _).mp h35; rw [if_neg (by rw [g1]; decide)]; rfl)))
                   · unfold w_knB
                     first
                       | (have f1 := h9; have eC : w_knC J (J 1 f.toNatClampNeg) = w_body J 41 := by (unfold w_knC; rw [if_pos f1])
                          rw [eC]; (first | (have g1 := (pv_b_n0 _).mp h35; rw [if_pos g1]; exact hM) | (have g1 := (pv_b_0 _).mp h35; rw [if_neg (by rw [g1]; decide)]; exact hM)))
                       | (have f1 := h9; have f2 := h21; have eC : w_knC J (J 1 f.toNatClampNeg) = w_body J 70 := by (unfold w_knC; rw [if_neg f1, if_pos f2])
                          rw [eC]; (first | (have g1 := (pv_b_n0 _).mp h35; rw [if_pos g1]; exact hM) | (have g1 := (pv_b_0 _).mp h35; rw [if_neg (by rw [g1]; decide)]; exact hM)))
                       | (have f1 := h9; have f2 := h21; have eC : w_knC J (J 1 f.toNatClampNeg) = J := by (unfold w_knC; rw [if_neg f1, if_neg f2])
                          rw [eC]; (first | (have g1 := (pv_b_n0 _).mp h35; rw [if_pos g1]; exact hM) | (have g1 := (pv_b_0 _).mp h35; rw [if_neg (by rw [g1]; decide)]; exact hM))))
            · refine pv_iload_4 (pc := 107) dX12_knotting_107 ?_
              refine pv_iconst (pc := 109) (v := 5) dX12_knotting_109 (by decide) ?_
              refine pv_ixor (pc := 110) dX12_knotting_110 ?_
              refine pv_goto (pc := 111) (tgt := 116) dX12_knotting_111 (by decide) ?_
              refine pv_iret (pc := 116) dX12_knotting_116 rfl rfl ?_
              first
                | (exfalso; first | (have f1 := h9; have f2 := h21; rw [f1] at f2; exact absurd f2 (by decide)) | exact h9 h91 | exact h91 h9 | exact h21 h104 | exact h104 h21 | (have f1 := h35; have f2 := h81; exact f1 f2) | (have f1 := h35; have f2 := h81; exact f2 f1) | (have f1 := h9; have f2 := h104; rw [f1] at f2; exact absurd f2 (by decide)) | (have f1 := h21; have f2 := h91; rw [f1] at f2; exact absurd f2 (by decide)))
                | (refine ⟨?_, rfl, rfl, rfl, ?_, hX⟩
                   · unfold w_knV
                     first
                       | (have f1 := h9; rw [if_pos f1]; unfold w_knT; (first | (have g1 := (pv_b_n0 _).mp h35; rw [if_pos g1]; rfl) | (have g1 := (pv_b_0 _).mp h35; rw [if_neg (by rw [g1]; decide)]; rfl)))
                       | (have f1 := h9; have f2 := h21; rw [if_neg f1, if_pos f2]; unfold w_knT; (first | (have g1 := (pv_b_n0 _).mp h35; rw [if_pos g1]; rfl) | (have g1 := (pv_b_0 _).mp h35; rw [if_neg (by rw [g1]; decide)]; rfl)))
                       | (have f1 := h9; have f2 := h21; rw [if_neg f1, if_neg f2]; unfold w_knT; (first | (have g1 := (pv_b_n0 _).mp h35; rw [if_pos g1]; rfl) | (have g1 := (pv_b_0 _).mp h35; rw [if_neg (by rw [g1]; decide)]; rfl)))
                   · unfold w_knB
                     first
                       | (have f1 := h9; have eC : w_knC J (J 1 f.toNatClampNeg) = w_body J 41 := by (unfold w_knC; rw [if_pos f1])
                          rw [eC]; (first | (have g1 := (pv_b_n0 _).mp h35; rw [if_pos g1]; exact hM) | (have g1 := (pv_b_0 _).mp h35; rw [if_neg (by rw [g1]; decide)]; exact hM)))
                       | (have f1 := h9; have f2 := h21; have eC : w_knC J (J 1 f.toNatClampNeg) = w_body J 70 := by (unfold w_knC; rw [if_neg f1, if_pos f2])
                          rw [eC]; (first | (have g1 := (pv_b_n0 _).mp h35; rw [if_pos g1]; exact hM) | (have g1 := (pv_b_0 _).mp h35; rw [if_neg (by rw [g1]; decide)]; exact hM)))
                       | (have f1 := h9; have f2 := h21; have eC : w_knC J (J 1 f.toNatClampNeg) = J := by (unfold w_knC; rw [if_neg f1, if_neg f2])
                          rw [eC]; (first | (have g1 := (pv_b_n0 _).mp h35; rw [if_pos g1]; exact hM) | (have g1 := (pv_b_0 _).mp h35; rw [if_neg (by rw [g1]; decide)]; exact hM))))
          · refine pv_iload_4 (pc := 94) dX12_knotting_94 ?_
            refine pv_iload_1 (pc := 96) dX12_knotting_96 ?_
            refine pv_isub (pc := 97) dX12_knotting_97 ?_
            refine pv_goto (pc := 98) (tgt := 116) dX12_knotting_98 (by decide) ?_
            refine pv_iret (pc := 116) dX12_knotting_116 rfl rfl ?_
            first
              | (exfalso; first | (have f1 := h9; have f2 := h21; rw [f1] at f2; exact absurd f2 (by decide)) | exact h9 h91 | exact h91 h9 | exact h21 h104 | exact h104 h21 | (have f1 := h35; have f2 := h81; exact f1 f2) | (have f1 := h35; have f2 := h81; exact f2 f1) | (have f1 := h9; have f2 := h104; rw [f1] at f2; exact absurd f2 (by decide)) | (have f1 := h21; have f2 := h91; rw [f1] at f2; exact absurd f2 (by decide)))
              | (refine ⟨?_, rfl, rfl, rfl, ?_, hX⟩
                 · unfold w_knV
                   first
                     | (have f1 := h9; rw [if_pos f1]; unfold w_knT; (first | (have g1 := (pv_b_n0 _).mp h35; rw [if_pos g1]; rfl) | (have g1 := (pv_b_0 _).mp h35; rw [if_neg (by rw [g1]; decide)]; rfl)))
                     | (have f1 := h9; have f2 := h21; rw [if_neg f1, if_pos f2]; unfold w_knT; (first | (have g1 := (pv_b_n0 _).mp h35; rw [if_pos g1]; rfl) | (have g1 := (pv_b_0 _).mp h35; rw [if_neg (by rw [g1]; decide)]; rfl)))
                     | (have f1 := h9; have f2 := h21; rw [if_neg f1, if_neg f2]; unfold w_knT; (first | (have g1 := (pv_b_n0 _).mp h35; rw [if_pos g1]; rfl) | (have g1 := (pv_b_0 _).mp h35; rw [if_neg (by rw [g1]; decide)]; rfl)))
                 · unfold w_knB
                   first
                     | (have f1 := h9; have eC : w_knC J (J 1 f.toNatClampNeg) = w_body J 41 := by (unfold w_knC; rw [if_pos f1])
                        rw [eC]; (first | (have g1 := (pv_b_n0 _).mp h35; rw [if_pos g1]; exact hM) | (have g1 := (pv_b_0 _).mp h35; rw [if_neg (by rw [g1]; decide)]; exact hM)))
                     | (have f1 := h9; have f2 := h21; have eC : w_knC J (J 1 f.toNatClampNeg) = w_body J 70 := by (unfold w_knC; rw [if_neg f1, if_pos f2])
                        rw [eC]; (first | (have g1 := (pv_b_n0 _).mp h35; rw [if_pos g1]; exact hM) | (have g1 := (pv_b_0 _).mp h35; rw [if_neg (by rw [g1]; decide)]; exact hM)))
                     | (have f1 := h9; have f2 := h21; have eC : w_knC J (J 1 f.toNatClampNeg) = J := by (unfold w_knC; rw [if_neg f1, if_neg f2])
                        rw [eC]; (first | (have g1 := (pv_b_n0 _).mp h35; rw [if_pos g1]; exact hM) | (have g1 := (pv_b_0 _).mp h35; rw [if_neg (by rw [g1]; decide)]; exact hM))))
        · refine pv_iload_4 (pc := 84) dX12_knotting_84 ?_
          refine pv_ineg (pc := 86) dX12_knotting_86 ?_
          refine pv_istore_4 (pc := 87) dX12_knotting_87 (by decide) rfl ?_
          refine pv_iload_3 (pc := 89) dX12_knotting_89 ?_
          refine pv_iconst (pc := 90) (v := 3) dX12_knotting_90 (by decide) ?_
          refine pv_icmp_ne (pc := 91) (tgt := 101) dX12_knotting_91 (by decide) (fun h91 => ?_) (fun h91 => ?_)
          · refine pv_iload_3 (pc := 101) dX12_knotting_101 ?_
            refine pv_bipush (pc := 102) (v := 6) dX12_knotting_102 (by decide) ?_
            refine pv_icmp_ne (pc := 104) (tgt := 114) dX12_knotting_104 (by decide) (fun h104 => ?_) (fun h104 => ?_)
            · refine pv_iload_4 (pc := 114) dX12_knotting_114 ?_
              refine pv_iret (pc := 116) dX12_knotting_116 rfl rfl ?_
              first
                | (exfalso; first | (have f1 := h9; have f2 := h21; rw [f1] at f2; exact absurd f2 (by decide)) | exact h9 h91 | exact h91 h9 | exact h21 h104 | exact h104 h21 | (have f1 := h35; have f2 := h81; exact f1 f2) | (have f1 := h35; have f2 := h81; exact f2 f1) | (have f1 := h9; have f2 := h104; rw [f1] at f2; exact absurd f2 (by decide)) | (have f1 := h21; have f2 := h91; rw [f1] at f2; exact absurd f2 (by decide)))
                | (refine ⟨?_, rfl, rfl, rfl, ?_, hX⟩
                   · unfold w_knV
                     first
                       | (have f1 := h9; rw [if_pos f1]; unfold w_knT; (first | (have g1 := (pv_b_n0 _).mp h35; rw [if_pos g1]; rfl) | (have g1 := (pv_b_0 _).mp h35; rw [if_neg (by rw [g1]; decide)]; rfl)))
                       | (have f1 := h9; have f2 := h21; rw [if_neg f1, if_pos f2]; unfold w_knT; (first | (have g1 := (pv_b_n0 _).mp h35; rw [if_pos g1]; rfl) | (have g1 := (pv_b_0 _).mp h35; rw [if_neg (by rw [g1]; decide)]; rfl)))
                       | (have f1 := h9; have f2 := h21; rw [if_neg f1, if_neg f2]; unfold w_knT; (first | (have g1 := (pv_b_n0 _).mp h35; rw [if_pos g1]; rfl) | (have g1 := (pv_b_0 _).mp h35; rw [if_neg (by rw [g1]; decide)]; rfl)))
                   · unfold w_knB
                     first
                       | (have f1 := h9; have eC : w_knC J (J 1 f.toNatClampNeg) = w_body J 41 := by (unfold w_knC; rw [if_pos f1])
                          rw [eC]; (first | (have g1 := (pv_b_n0 _).mp h35; rw [if_pos g1]; exact hM) | (have g1 := (pv_b_0 _).mp h35; rw [if_neg (by rw [g1]; decide)]; exact hM)))
                       | (have f1 := h9; have f2 := h21; have eC : w_knC J (J 1 f.toNatClampNeg) = w_body J 70 := by (unfold w_knC; rw [if_neg f1, if_pos f2])
                          rw [eC]; (first | (have g1 := (pv_b_n0 _).mp h35; rw [if_pos g1]; exact hM) | (have g1 := (pv_b_0 _).mp h35; rw [if_neg (by rw [g1]; decide)]; exact hM)))
                       | (have f1 := h9; have f2 := h21; have eC : w_knC J (J 1 f.toNatClampNeg) = J := by (unfold w_knC; rw [if_neg f1, if_neg f2])
                          rw [eC]; (first | (have g1 := (pv_b_n0 _).mp h35; rw [if_pos g1]; exact hM) | (have g1 := (pv_b_0 _).mp h35; rw [if_neg (by rw [g1]; decide)]; exact hM))))
            · refine pv_iload_4 (pc := 107) dX12_knotting_107 ?_
              refine pv_iconst (pc := 109) (v := 5) dX12_knotting_109 (by decide) ?_
              refine pv_ixor (pc := 110) dX12_knotting_110 ?_
              refine pv_goto (pc := 111) (tgt := 116) dX12_knotting_111 (by decide) ?_
              refine pv_iret (pc := 116) dX12_knotting_116 rfl rfl ?_
              first
                | (exfalso; first | (have f1 := h9; have f2 := h21; rw [f1] at f2; exact absurd f2 (by decide)) | exact h9 h91 | exact h91 h9 | exact h21 h104 | exact h104 h21 | (have f1 := h35; have f2 := h81; exact f1 f2) | (have f1 := h35; have f2 := h81; exact f2 f1) | (have f1 := h9; have f2 := h104; rw [f1] at f2; exact absurd f2 (by decide)) | (have f1 := h21; have f2 := h91; rw [f1] at f2; exact absurd f2 (by decide)))
                | (refine ⟨?_, rfl, rfl, rfl, ?_, hX⟩
                   · unfold w_knV
                     first
                       | (have f1 := h9; rw [if_pos f1]; unfold w_knT; (first | (have g1 := (pv_b_n0 _).mp h35; rw [if_pos g1]; rfl) | (have g1 := (pv_b_0 _).mp h35; rw [if_neg (by rw [g1]; decide)]; rfl)))
                       | (have f1 := h9; have f2 := h21; rw [if_neg f1, if_pos f2]; unfold w_knT; (first | (have g1 := (pv_b_n0 _).mp h35; rw [if_pos g1]; rfl) | (have g1 := (pv_b_0 _).mp h35; rw [if_neg (by rw [g1]; decide)]; rfl)))
                       | (have f1 := h9; have f2 := h21; rw [if_neg f1, if_neg f2]; unfold w_knT; (first | (have g1 := (pv_b_n0 _).mp h35; rw [if_pos g1]; rfl) | (have g1 := (pv_b_0 _).mp h35; rw [if_neg (by rw [g1]; decide)]; rfl)))
                   · unfold w_knB
                     first
                       | (have f1 := h9; have eC : w_knC J (J 1 f.toNatClampNeg) = w_body J 41 := by (unfold w_knC; rw [if_pos f1])
                          rw [eC]; (first | (have g1 := (pv_b_n0 _).mp h35; rw [if_pos g1]; exact hM) | (have g1 := (pv_b_0 _).mp h35; rw [if_neg (by rw [g1]; decide)]; exact hM)))
                       | (have f1 := h9; have f2 := h21; have eC : w_knC J (J 1 f.toNatClampNeg) = w_body J 70 := by (unfold w_knC; rw [if_neg f1, if_pos f2])
                          rw [eC]; (first | (have g1 := (pv_b_n0 _).mp h35; rw [if_pos g1]; exact hM) | (have g1 := (pv_b_0 _).mp h35; rw [if_neg (by rw [g1]; decide)]; exact hM)))
                       | (have f1 := h9; have f2 := h21; have eC : w_knC J (J 1 f.toNatClampNeg) = J := by (unfold w_knC; rw [if_neg f1, if_neg f2])
                          rw [eC]; (first | (have g1 := (pv_b_n0 _).mp h35; rw [if_pos g1]; exact hM) | (have g1 := (pv_b_0 _).mp h35; rw [if_neg (by rw [g1]; decide)]; exact hM))))
          · refine pv_iload_4 (pc := 94) dX12_knotting_94 ?_
            refine pv_iload_1 (pc := 96) dX12_knotting_96 ?_
            refine pv_isub (pc := 97) dX12_knotting_97 ?_
            refine pv_goto (pc := 98) (tgt := 116) dX12_knotting_98 (by decide) ?_
            refine pv_iret (pc := 116) dX12_knotting_116 rfl rfl ?_
            first
              | (exfalso; first | (have f1 := h9; have f2 := h21; rw [f1] at f2; exact absurd f2 (by decide)) | exact h9 h91 | exact h91 h9 | exact h21 h104 | exact h104 h21 | (have f1 := h35; have f2 := h81; exact f1 f2) | (have f1 := h35; have f2 := h81; exact f2 f1) | (have f1 := h9; have f2 := h104; rw [f1] at f2; exact absurd f2 (by decide)) | (have f1 := h21; have f2 := h91; rw [f1] at f2; exact absurd f2 (by decide)))
              | (refine ⟨?_, rfl, rfl, rfl, ?_, hX⟩
                 · unfold w_knV
                   first
                     | (have f1 := h9; rw [if_pos f1]; unfold w_knT; (first | (have g1 := (pv_b_n0 _).mp h35; rw [if_pos g1]; rfl) | (have g1 := (pv_b_0 _).mp h35; rw [if_neg (by rw [g1]; decide)]; rfl)))
                     | (have f1 := h9; have f2 := h21; rw [if_neg f1, if_pos f2]; unfold w_knT; (first | (have g1 := (pv_b_n0 _).mp h35; rw [if_pos g1]; rfl) | (have g1 := (pv_b_0 _).mp h35; rw [if_neg (by rw [g1]; decide)]; rfl)))
                     | (have f1 := h9; have f2 := h21; rw [if_neg f1, if_neg f2]; unfold w_knT; (first | (have g1 := (pv_b_n0 _).mp h35; rw [if_pos g1]; rfl) | (have g1 := (pv_b_0 _).mp h35; rw [if_neg (by rw [g1]; decide)]; rfl)))
                 · unfold w_knB
                   first
                     | (have f1 := h9; have eC : w_knC J (J 1 f.toNatClampNeg) = w_body J 41 := by (unfold w_knC; rw [if_pos f1])
                        rw [eC]; (first | (have g1 := (pv_b_n0 _).mp h35; rw [if_pos g1]; exact hM) | (have g1 := (pv_b_0 _).mp h35; rw [if_neg (by rw [g1]; decide)]; exact hM)))
                     | (have f1 := h9; have f2 := h21; have eC : w_knC J (J 1 f.toNatClampNeg) = w_body J 70 := by (unfold w_knC; rw [if_neg f1, if_pos f2])
                        rw [eC]; (first | (have g1 := (pv_b_n0 _).mp h35; rw [if_pos g1]; exact hM) | (have g1 := (pv_b_0 _).mp h35; rw [if_neg (by rw [g1]; decide)]; exact hM)))
                     | (have f1 := h9; have f2 := h21; have eC : w_knC J (J 1 f.toNatClampNeg) = J := by (unfold w_knC; rw [if_neg f1, if_neg f2])
                        rw [eC]; (first | (have g1 := (pv_b_n0 _).mp h35; rw [if_pos g1]; exact hM) | (have g1 := (pv_b_0 _).mp h35; rw [if_neg (by rw [g1]; decide)]; exact hM))))
    · refine pv_aload_0 (pc := 24) dX12_knotting_24 ?_
      refine pv_bipush (pc := 25) (v := 70) dX12_knotting_25 (by decide) ?_
      refine pv_callVq (pc := 27) dX12_knotting_27 mgX12_body lv_X12_396_12 (by decide) (sx_61 hT) (by omega) (c_X12_body hT hR hM ⟨hr.1, by have := hr.2; omega⟩) rfl rfl (by decide) (fun v t I L Rf hq => ?_)
      obtain ⟨rfl, rfl, rfl, rfl, hM, hX2⟩ := hq
      have hX := hX.tr hX2
      have hr := body_n (b := 70) hr (by omega)
      have hW := body_wf (b := 70) hW
      refine pv_aload_0 (pc := 30) dX12_knotting_30 ?_
      refine pv_iload_3 (pc := 31) dX12_knotting_31 ?_
      refine pv_callV1 (pc := 32) dX12_knotting_32 mgX12_isTurn lv_X12_125_12 (by decide) (sx_61 hT) (by omega) (c_X12_isTurn ) rfl rfl (by decide) ?_
      refine pv_if_eq (pc := 35) (tgt := 44) dX12_knotting_35 (by decide) (fun h35 => ?_) (fun h35 => ?_)
      · refine pv_aload_0 (pc := 44) dX12_knotting_44 ?_
        refine pv_bipush (pc := 45) (v := 12) dX12_knotting_45 (by decide) ?_
        refine pv_callVq (pc := 47) dX12_knotting_47 mgX12_body lv_X12_396_12 (by decide) (sx_61 hT) (by omega) (c_X12_body hT hR hM ⟨hr.1, by have := hr.2; omega⟩) rfl rfl (by decide) (fun v t I L Rf hq => ?_)
        obtain ⟨rfl, rfl, rfl, rfl, hM, hX2⟩ := hq
        have hX := hX.tr hX2
        have hr := body_n (b := 12) hr (by omega)
        have hW := body_wf (b := 12) hW
        refine pv_aload_0 (pc := 50) dX12_knotting_50 ?_
        refine pv_iload_1 (pc := 51) dX12_knotting_51 ?_
        refine pv_iload_2 (pc := 52) dX12_knotting_52 ?_
        refine pv_callVq (pc := 53) dX12_knotting_53 mgX12_stepping lv_X12_402_12 (by decide) (sx_61 hT) (by omega) (c_X12_stepping hT hR hW hM hF hr (by omega) (by omega)) rfl rfl (by decide) (fun v t I L Rf hq => ?_)
        obtain ⟨rfl, rfl, rfl, rfl, hM, hX2⟩ := hq
        have hX := hX.tr hX2
        have hr := body_n5 (k := J 1 f.toNatClampNeg) hr (by omega)
        have hW := stB_wf (k := J 1 f.toNatClampNeg) hW
        refine pv_istore_4 (pc := 56) dX12_knotting_56 (by decide) rfl ?_
        refine pv_iload_4 (pc := 58) dX12_knotting_58 ?_
        refine pv_aload_0 (pc := 60) dX12_knotting_60 ?_
        refine pv_iload_1 (pc := 61) dX12_knotting_61 ?_
        refine pv_iload_2 (pc := 62) dX12_knotting_62 ?_
        refine pv_aload_0 (pc := 63) dX12_knotting_63 ?_
        refine pv_getR (pc := 64) dX12_knotting_64 fg_X12_27_12 rfl (by decide) (sx_61 hT) (rx_61_9 hR) ?_
        refine pv_iload_1 (pc := 67) dX12_knotting_67 ?_
        refine pv_ialoadj (pc := 68) dX12_knotting_68 (sx_64 hT) rfl h8 ?_
        refine pv_topv2 (y := J 2 f.toNatClampNeg) (by have e := (hM.2.1 f.toNatClampNeg (by rw [w_stB_1 _ _ 0 0 (by decide) (by decide)]; exact hn)).2.1; rw [w_stB_1 _ _ 2 _ (by decide) (by omega)] at e; exact e) ?_
        refine pv_isub (pc := 69) dX12_knotting_69 ?_
        refine pv_callVq (pc := 70) dX12_knotting_70 mgX12_calling lv_X12_399_12 (by decide) (sx_61 hT) (by omega) (c_X12_calling hT hR hW hM (by unfold w_isF; rw [w_stB_1 _ _ 0 0 (by decide) (by decide)]; exact hF) hr (by omega) (by omega)) rfl rfl (Nat.le_of_ble_eq_true rfl) (fun v t I L Rf hq => ?_)
        obtain ⟨rfl, rfl, rfl, rfl, hM, hX2⟩ := hq
        have hX := hX.tr hX2
        rw [w_calV_s]
        rw [w_stB_1 _ _ 1 _ (by decide) (by omega)] at hM
        refine pv_ixor (pc := 73) dX12_knotting_73 ?_
        refine pv_istore_4 (pc := 74) dX12_knotting_74 (by decide) rfl ?_
        refine pv_aload_0 (pc := 76) dX12_knotting_76 ?_
        refine pv_iload_3 (pc := 77) dX12_knotting_77 ?_
        refine pv_callV1 (pc := 78) dX12_knotting_78 mgX12_isTurn lv_X12_125_12 (by decide) (sx_61 hT) (by omega) (c_X12_isTurn ) rfl rfl (by decide) ?_
        refine pv_if_eq (pc := 81) (tgt := 89) dX12_knotting_81 (by decide) (fun h81 => ?_) (fun h81 => ?_)
        · refine pv_iload_3 (pc := 89) dX12_knotting_89 ?_
          refine pv_iconst (pc := 90) (v := 3) dX12_knotting_90 (by decide) ?_
          refine pv_icmp_ne (pc := 91) (tgt := 101) dX12_knotting_91 (by decide) (fun h91 => ?_) (fun h91 => ?_)
          · refine pv_iload_3 (pc := 101) dX12_knotting_101 ?_
            refine pv_bipush (pc := 102) (v := 6) dX12_knotting_102 (by decide) ?_
            refine pv_icmp_ne (pc := 104) (tgt := 114) dX12_knotting_104 (by decide) (fun h104 => ?_) (fun h104 => ?_)
            · refine pv_iload_4 (pc := 114) dX12_knotting_114 ?_
              refine pv_iret (pc := 116) dX12_knotting_116 rfl rfl ?_
              first
                | (exfalso; first | (have f1 := h9; have f2 := h21; rw [f1] at f2; exact absurd f2 (by decide)) | exact h9 h91 | exact h91 h9 | exact h21 h104 | exact h104 h21 | (have f1 := h35; have f2 := h81; exact f1 f2) | (have f1 := h35; have f2 := h81; exact f2 f1) | (have f1 := h9; have f2 := h104; rw [f1] at f2; exact absurd f2 (by decide)) | (have f1 := h21; have f2 := h91; rw [f1] at f2; exact absurd f2 (by decide)))
                | (refine ⟨?_, rfl, rfl, rfl, ?_, hX⟩
                   · unfold w_knV
                     first
                       | (have f1 := h9; rw [if_pos f1]; unfold w_knT; (first | (have g1 := (pv_b_n0 _).mp h35; rw [if_pos g1]; rfl) | (have g1 := (pv_b_0 _).mp h35; rw [if_neg (by rw [g1]; decide)]; rfl)))
                       | (have f1 := h9; have f2 := h21; rw [if_neg f1, if_pos f2]; unfold w_knT; (first | (have g1 := (pv_b_n0 _).mp h35; rw [if_pos g1]; rfl) | (have g1 := (pv_b_0 _).mp h35; rw [if_neg (by rw [g1]; decide)]; rfl)))
                       | (have f1 := h9; have f2 := h21; rw [if_neg f1, if_neg f2]; unfold w_knT; (first | (have g1 := (pv_b_n0 _).mp h35; rw [if_pos g1]; rfl) | (have g1 := (pv_b_0 _).mp h35; rw [if_neg (by rw [g1]; decide)]; rfl)))
                   · unfold w_knB
                     first
                       | (have f1 := h9; have eC : w_knC J (J 1 f.toNatClampNeg) = w_body J 41 := by (unfold w_knC; rw [if_pos f1])
                          rw [eC]; (first | (have g1 := (pv_b_n0 _).mp h35; rw [if_pos g1]; exact hM) | (have g1 := (pv_b_0 _).mp h35; rw [if_neg (by rw [g1]; decide)]; exact hM)))
                       | (have f1 := h9; have f2 := h21; have eC : w_knC J (J 1 f.toNatClampNeg) = w_body J 70 := by (unfold w_knC; rw [if_neg f1, if_pos f2])
                          rw [eC]; (first | (have g1 := (pv_b_n0 _).mp h35; rw [if_pos g1]; exact hM) | (have g1 := (pv_b_0 _).mp h35; rw [if_neg (by rw [g1]; decide)]; exact hM)))
                       | (have f1 := h9; have f2 := h21; have eC : w_knC J (J 1 f.toNatClampNeg) = J := by (unfold w_knC; rw [if_neg f1, if_neg f2])
                          rw [eC]; (first | (have g1 := (pv_b_n0 _).mp h35; rw [if_pos g1]; exact hM) | (have g1 := (pv_b_0 _).mp h35; rw [if_neg (by rw [g1]; decide)]; exact hM))))
            · refine pv_iload_4 (pc := 107) dX12_knotting_107 ?_
              refine pv_iconst (pc := 109) (v := 5) dX12_knotting_109 (by decide) ?_
              refine pv_ixor (pc := 110) dX12_knotting_110 ?_
              refine pv_goto (pc := 111) (tgt := 116) dX12_knotting_111 (by decide) ?_
              refine pv_iret (pc := 116) dX12_knotting_116 rfl rfl ?_
              first
                | (exfalso; first | (have f1 := h9; have f2 := h21; rw [f1] at f2; exact absurd f2 (by decide)) | exact h9 h91 | exact h91 h9 | exact h21 h104 | exact h104 h21 | (have f1 := h35; have f2 := h81; exact f1 f2) | (have f1 := h35; have f2 := h81; exact f2 f1) | (have f1 := h9; have f2 := h104; rw [f1] at f2; exact absurd f2 (by decide)) | (have f1 := h21; have f2 := h91; rw [f1] at f2; exact absurd f2 (by decide)))
                | (refine ⟨?_, rfl, rfl, rfl, ?_, hX⟩
                   · unfold w_knV
                     first
                       | (have f1 := h9; rw [if_pos f1]; unfold w_knT; (first | (have g1 := (pv_b_n0 _).mp h35; rw [if_pos g1]; rfl) | (have g1 := (pv_b_0 _).mp h35; rw [if_neg (by rw [g1]; decide)]; rfl)))
                       | (have f1 := h9; have f2 := h21; rw [if_neg f1, if_pos f2]; unfold w_knT; (first | (have g1 := (pv_b_n0 _).mp h35; rw [if_pos g1]; rfl) | (have g1 := (pv_b_0 _).mp h35; rw [if_neg (by rw [g1]; decide)]; rfl)))
                       | (have f1 := h9; have f2 := h21; rw [if_neg f1, if_neg f2]; unfold w_knT; (first | (have g1 := (pv_b_n0 _).mp h35; rw [if_pos g1]; rfl) | (have g1 := (pv_b_0 _).mp h35; rw [if_neg (by rw [g1]; decide)]; rfl)))
                   · unfold w_knB
                     first
                       | (have f1 := h9; have eC : w_knC J (J 1 f.toNatClampNeg) = w_body J 41 := by (unfold w_knC; rw [if_pos f1])
                          rw [eC]; (first | (have g1 := (pv_b_n0 _).mp h35; rw [if_pos g1]; exact hM) | (have g1 := (pv_b_0 _).mp h35; rw [if_neg (by rw [g1]; decide)]; exact hM)))
                       | (have f1 := h9; have f2 := h21; have eC : w_knC J (J 1 f.toNatClampNeg) = w_body J 70 := by (unfold w_knC; rw [if_neg f1, if_pos f2])
                          rw [eC]; (first | (have g1 := (pv_b_n0 _).mp h35; rw [if_pos g1]; exact hM) | (have g1 := (pv_b_0 _).mp h35; rw [if_neg (by rw [g1]; decide)]; exact hM)))
                       | (have f1 := h9; have f2 := h21; have eC : w_knC J (J 1 f.toNatClampNeg) = J := by (unfold w_knC; rw [if_neg f1, if_neg f2])
                          rw [eC]; (first | (have g1 := (pv_b_n0 _).mp h35; rw [if_pos g1]; exact hM) | (have g1 := (pv_b_0 _).mp h35; rw [if_neg (by rw [g1]; decide)]; exact hM))))
          · refine pv_iload_4 (pc := 94) dX12_knotting_94 ?_
            refine pv_iload_1 (pc := 96) dX12_knotting_96 ?_
            refine pv_isub (pc := 97) dX12_knotting_97 ?_
            refine pv_goto (pc := 98) (tgt := 116) dX12_knotting_98 (by decide) ?_
            refine pv_iret (pc := 116) dX12_knotting_116 rfl rfl ?_
            first
              | (exfalso; first | (have f1 := h9; have f2 := h21; rw [f1] at f2; exact absurd f2 (by decide)) | exact h9 h91 | exact h91 h9 | exact h21 h104 | exact h104 h21 | (have f1 := h35; have f2 := h81; exact f1 f2) | (have f1 := h35; have f2 := h81; exact f2 f1) | (have f1 := h9; have f2 := h104; rw [f1] at f2; exact absurd f2 (by decide)) | (have f1 := h21; have f2 := h91; rw [f1] at f2; exact absurd f2 (by decide)))
              | (refine ⟨?_, rfl, rfl, rfl, ?_, hX⟩
                 · unfold w_knV
                   first
                     | (have f1 := h9; rw [if_pos f1]; unfold w_knT; (first | (have g1 := (pv_b_n0 _).mp h35; rw [if_pos g1]; rfl) | (have g1 := (pv_b_0 _).mp h35; rw [if_neg (by rw [g1]; decide)]; rfl)))
                     | (have f1 := h9; have f2 := h21; rw [if_neg f1, if_pos f2]; unfold w_knT; (first | (have g1 := (pv_b_n0 _).mp h35; rw [if_pos g1]; rfl) | (have g1 := (pv_b_0 _).mp h35; rw [if_neg (by rw [g1]; decide)]; rfl)))
                     | (have f1 := h9; have f2 := h21; rw [if_neg f1, if_neg f2]; unfold w_knT; (first | (have g1 := (pv_b_n0 _).mp h35; rw [if_pos g1]; rfl) | (have g1 := (pv_b_0 _).mp h35; rw [if_neg (by rw [g1]; decide)]; rfl)))
                 · unfold w_knB
                   first
                     | (have f1 := h9; have eC : w_knC J (J 1 f.toNatClampNeg) = w_body J 41 := by (unfold w_knC; rw [if_pos f1])
                        rw [eC]; (first | (have g1 := (pv_b_n0 _).mp h35; rw [if_pos g1]; exact hM) | (have g1 := (pv_b_0 _).mp h35; rw [if_neg (by rw [g1]; decide)]; exact hM)))
                     | (have f1 := h9; have f2 := h21; have eC : w_knC J (J 1 f.toNatClampNeg) = w_body J 70 := by (unfold w_knC; rw [if_neg f1, if_pos f2])
                        rw [eC]; (first | (have g1 := (pv_b_n0 _).mp h35; rw [if_pos g1]; exact hM) | (have g1 := (pv_b_0 _).mp h35; rw [if_neg (by rw [g1]; decide)]; exact hM)))
                     | (have f1 := h9; have f2 := h21; have eC : w_knC J (J 1 f.toNatClampNeg) = J := by (unfold w_knC; rw [if_neg f1, if_neg f2])
                        rw [eC]; (first | (have g1 := (pv_b_n0 _).mp h35; rw [if_pos g1]; exact hM) | (have g1 := (pv_b_0 _).mp h35; rw [if_neg (by rw [g1]; decide)]; exact hM))))
        · refine pv_iload_4 (pc := 84) dX12_knotting_84 ?_
          refine pv_ineg (pc := 86) dX12_knotting_86 ?_
          refine pv_istore_4 (pc := 87) dX12_knotting_87 (by decide) rfl ?_
          refine pv_iload_3 (pc := 89) dX12_knotting_89 ?_
          refine pv_iconst (pc := 90) (v := 3) dX12_knotting_90 (by decide) ?_
          refine pv_icmp_ne (pc := 91) (tgt := 101) dX12_knotting_91 (by decide) (fun h91 => ?_) (fun h91 => ?_)
          · refine pv_iload_3 (pc := 101) dX12_knotting_101 ?_
            refine pv_bipush (pc := 102) (v := 6) dX12_knotting_102 (by decide) ?_
            refine pv_icmp_ne (pc := 104) (tgt := 114) dX12_knotting_104 (by decide) (fun h104 => ?_) (fun h104 => ?_)
            · refine pv_iload_4 (pc := 114) dX12_knotting_114 ?_
              refine pv_iret (pc := 116) dX12_knotting_116 rfl rfl ?_
              first
                | (exfalso; first | (have f1 := h9; have f2 := h21; rw [f1] at f2; exact absurd f2 (by decide)) | exact h9 h91 | exact h91 h9 | exact h21 h104 | exact h104 h21 | (have f1 := h35; have f2 := h81; exact f1 f2) | (have f1 := h35; have f2 := h81; exact f2 f1) | (have f1 := h9; have f2 := h104; rw [f1] at f2; exact absurd f2 (by decide)) | (have f1 := h21; have f2 := h91; rw [f1] at f2; exact absurd f2 (by decide)))
                | (refine ⟨?_, rfl, rfl, rfl, ?_, hX⟩
                   · unfold w_knV
                     first
                       | (have f1 := h9; rw [if_pos f1]; unfold w_knT; (first | (have g1 := (pv_b_n0 _).mp h35; rw [if_pos g1]; rfl) | (have g1 := (pv_b_0 _).mp h35; rw [if_neg (by rw [g1]; decide)]; rfl)))
                       | (have f1 := h9; have f2 := h21; rw [if_neg f1, if_pos f2]; unfold w_knT; (first | (have g1 := (pv_b_n0 _).mp h35; rw [if_pos g1]; rfl) | (have g1 := (pv_b_0 _).mp h35; rw [if_neg (by rw [g1]; decide)]; rfl)))
                       | (have f1 := h9; have f2 := h21; rw [if_neg f1, if_neg f2]; unfold w_knT; (first | (have g1 := (pv_b_n0 _).mp h35; rw [if_pos g1]; rfl) | (have g1 := (pv_b_0 _).mp h35; rw [if_neg (by rw [g1]; decide)]; rfl)))
                   · unfold w_knB
                     first
                       | (have f1 := h9; have eC : w_knC J (J 1 f.toNatClampNeg) = w_body J 41 := by (unfold w_knC; rw [if_pos f1])
                          rw [eC]; (first | (have g1 := (pv_b_n0 _).mp h35; rw [if_pos g1]; exact hM) | (have g1 := (pv_b_0 _).mp h35; rw [if_neg (by rw [g1]; decide)]; exact hM)))
                       | (have f1 := h9; have f2 := h21; have eC : w_knC J (J 1 f.toNatClampNeg) = w_body J 70 := by (unfold w_knC; rw [if_neg f1, if_pos f2])
                          rw [eC]; (first | (have g1 := (pv_b_n0 _).mp h35; rw [if_pos g1]; exact hM) | (have g1 := (pv_b_0 _).mp h35; rw [if_neg (by rw [g1]; decide)]; exact hM)))
                       | (have f1 := h9; have f2 := h21; have eC : w_knC J (J 1 f.toNatClampNeg) = J := by (unfold w_knC; rw [if_neg f1, if_neg f2])
                          rw [eC]; (first | (have g1 := (pv_b_n0 _).mp h35; rw [if_pos g1]; exact hM) | (have g1 := (pv_b_0 _).mp h35; rw [if_neg (by rw [g1]; decide)]; exact hM))))
            · refine pv_iload_4 (pc := 107) dX12_knotting_107 ?_
              refine pv_iconst (pc := 109) (v := 5) dX12_knotting_109 (by decide) ?_
              refine pv_ixor (pc := 110) dX12_knotting_110 ?_
              refine pv_goto (pc := 111) (tgt := 116) dX12_knotting_111 (by decide) ?_
              refine pv_iret (pc := 116) dX12_knotting_116 rfl rfl ?_
              first
                | (exfalso; first | (have f1 := h9; have f2 := h21; rw [f1] at f2; exact absurd f2 (by decide)) | exact h9 h91 | exact h91 h9 | exact h21 h104 | exact h104 h21 | (have f1 := h35; have f2 := h81; exact f1 f2) | (have f1 := h35; have f2 := h81; exact f2 f1) | (have f1 := h9; have f2 := h104; rw [f1] at f2; exact absurd f2 (by decide)) | (have f1 := h21; have f2 := h91; rw [f1] at f2; exact absurd f2 (by decide)))
                | (refine ⟨?_, rfl, rfl, rfl, ?_, hX⟩
                   · unfold w_knV
                     first
                       | (have f1 := h9; rw [if_pos f1]; unfold w_knT; (first | (have g1 := (pv_b_n0 _).mp h35; rw [if_pos g1]; rfl) | (have g1 := (pv_b_0 _).mp h35; rw [if_neg (by rw [g1]; decide)]; rfl)))
                       | (have f1 := h9; have f2 := h21; rw [if_neg f1, if_pos f2]; unfold w_knT; (first | (have g1 := (pv_b_n0 _).mp h35; rw [if_pos g1]; rfl) | (have g1 := (pv_b_0 _).mp h35; rw [if_neg (by rw [g1]; decide)]; rfl)))
                       | (have f1 := h9; have f2 := h21; rw [if_neg f1, if_neg f2]; unfold w_knT; (first | (have g1 := (pv_b_n0 _).mp h35; rw [if_pos g1]; rfl) | (have g1 := (pv_b_0 _).mp h35; rw [if_neg (by rw [g1]; decide)]; rfl)))
                   · unfold w_knB
                     first
                       | (have f1 := h9; have eC : w_knC J (J 1 f.toNatClampNeg) = w_body J 41 := by (unfold w_knC; rw [if_pos f1])
                          rw [eC]; (first | (have g1 := (pv_b_n0 _).mp h35; rw [if_pos g1]; exact hM) | (have g1 := (pv_b_0 _).mp h35; rw [if_neg (by rw [g1]; decide)]; exact hM)))
                       | (have f1 := h9; have f2 := h21; have eC : w_knC J (J 1 f.toNatClampNeg) = w_body J 70 := by (unfold w_knC; rw [if_neg f1, if_pos f2])
                          rw [eC]; (first | (have g1 := (pv_b_n0 _).mp h35; rw [if_pos g1]; exact hM) | (have g1 := (pv_b_0 _).mp h35; rw [if_neg (by rw [g1]; decide)]; exact hM)))
                       | (have f1 := h9; have f2 := h21; have eC : w_knC J (J 1 f.toNatClampNeg) = J := by (unfold w_knC; rw [if_neg f1, if_neg f2])
                          rw [eC]; (first | (have g1 := (pv_b_n0 _).mp h35; rw [if_pos g1]; exact hM) | (have g1 := (pv_b_0 _).mp h35; rw [if_neg (by rw [g1]; decide)]; exact hM))))
          · refine pv_iload_4 (pc := 94) dX12_knotting_94 ?_
            refine pv_iload_1 (pc := 96) dX12_knotting_96 ?_
            refine pv_isub (pc := 97) dX12_knotting_97 ?_
            refine pv_goto (pc := 98) (tgt := 116) dX12_knotting_98 (by decide) ?_
            refine pv_iret (pc := 116) dX12_knotting_116 rfl rfl ?_
            first
              | (exfalso; first | (have f1 := h9; have f2 := h21; rw [f1] at f2; exact absurd f2 (by decide)) | exact h9 h91 | exact h91 h9 | exact h21 h104 | exact h104 h21 | (have f1 := h35; have f2 := h81; exact f1 f2) | (have f1 := h35; have f2 := h81; exact f2 f1) | (have f1 := h9; have f2 := h104; rw [f1] at f2; exact absurd f2 (by decide)) | (have f1 := h21; have f2 := h91; rw [f1] at f2; exact absurd f2 (by decide)))
              | (refine ⟨?_, rfl, rfl, rfl, ?_, hX⟩
                 · unfold w_knV
                   first
                     | (have f1 := h9; rw [if_pos f1]; unfold w_knT; (first | (have g1 := (pv_b_n0 _).mp h35; rw [if_pos g1]; rfl) | (have g1 := (pv_b_0 _).mp h35; rw [if_neg (by rw [g1]; decide)]; rfl)))
                     | (have f1 := h9; have f2 := h21; rw [if_neg f1, if_pos f2]; unfold w_knT; (first | (have g1 := (pv_b_n0 _).mp h35; rw [if_pos g1]; rfl) | (have g1 := (pv_b_0 _).mp h35; rw [if_neg (by rw [g1]; decide)]; rfl)))
                     | (have f1 := h9; have f2 := h21; rw [if_neg f1, if_neg f2]; unfold w_knT; (first | (have g1 := (pv_b_n0 _).mp h35; rw [if_pos g1]; rfl) | (have g1 := (pv_b_0 _).mp h35; rw [if_neg (by rw [g1]; decide)]; rfl)))
                 · unfold w_knB
                   first
                     | (have f1 := h9; have eC : w_knC J (J 1 f.toNatClampNeg) = w_body J 41 := by (unfold w_knC; rw [if_pos f1])
                        rw [eC]; (first | (have g1 := (pv_b_n0 _).mp h35; rw [if_pos g1]; exact hM) | (have g1 := (pv_b_0 _).mp h35; rw [if_neg (by rw [g1]; decide)]; exact hM)))
                     | (have f1 := h9; have f2 := h21; have eC : w_knC J (J 1 f.toNatClampNeg) = w_body J 70 := by (unfold w_knC; rw [if_neg f1, if_pos f2])
                        rw [eC]; (first | (have g1 := (pv_b_n0 _).mp h35; rw [if_pos g1]; exact hM) | (have g1 := (pv_b_0 _).mp h35; rw [if_neg (by rw [g1]; decide)]; exact hM)))
                     | (have f1 := h9; have f2 := h21; have eC : w_knC J (J 1 f.toNatClampNeg) = J := by (unfold w_knC; rw [if_neg f1, if_neg f2])
                        rw [eC]; (first | (have g1 := (pv_b_n0 _).mp h35; rw [if_pos g1]; exact hM) | (have g1 := (pv_b_0 _).mp h35; rw [if_neg (by rw [g1]; decide)]; exact hM))))
      · refine pv_aload_0 (pc := 38) dX12_knotting_38 ?_
        refine pv_bipush (pc := 39) (v := 50) dX12_knotting_39 (by decide) ?_
        refine pv_callVq (pc := 41) dX12_knotting_41 mgX12_body lv_X12_396_12 (by decide) (sx_61 hT) (by omega) (c_X12_body hT hR hM ⟨hr.1, by have := hr.2; omega⟩) rfl rfl (by decide) (fun v t I L Rf hq => ?_)
        obtain ⟨rfl, rfl, rfl, rfl, hM, hX2⟩ := hq
        have hX := hX.tr hX2
        have hr := body_n (b := 50) hr (by omega)
        have hW := body_wf (b := 50) hW
        refine pv_aload_0 (pc := 44) dX12_knotting_44 ?_
        refine pv_bipush (pc := 45) (v := 12) dX12_knotting_45 (by decide) ?_
        refine pv_callVq (pc := 47) dX12_knotting_47 mgX12_body lv_X12_396_12 (by decide) (sx_61 hT) (by omega) (c_X12_body hT hR hM ⟨hr.1, by have := hr.2; omega⟩) rfl rfl (by decide) (fun v t I L Rf hq => ?_)
        obtain ⟨rfl, rfl, rfl, rfl, hM, hX2⟩ := hq
        have hX := hX.tr hX2
        have hr := body_n (b := 12) hr (by omega)
        have hW := body_wf (b := 12) hW
        refine pv_aload_0 (pc := 50) dX12_knotting_50 ?_
        refine pv_iload_1 (pc := 51) dX12_knotting_51 ?_
        refine pv_iload_2 (pc := 52) dX12_knotting_52 ?_
        refine pv_callVq (pc := 53) dX12_knotting_53 mgX12_stepping lv_X12_402_12 (by decide) (sx_61 hT) (by omega) (c_X12_stepping hT hR hW hM hF hr (by omega) (by omega)) rfl rfl (by decide) (fun v t I L Rf hq => ?_)
        obtain ⟨rfl, rfl, rfl, rfl, hM, hX2⟩ := hq
        have hX := hX.tr hX2
        have hr := body_n5 (k := J 1 f.toNatClampNeg) hr (by omega)
        have hW := stB_wf (k := J 1 f.toNatClampNeg) hW
        refine pv_istore_4 (pc := 56) dX12_knotting_56 (by decide) rfl ?_
        refine pv_iload_4 (pc := 58) dX12_knotting_58 ?_
        refine pv_aload_0 (pc := 60) dX12_knotting_60 ?_
        refine pv_iload_1 (pc := 61) dX12_knotting_61 ?_
        refine pv_iload_2 (pc := 62) dX12_knotting_62 ?_
        refine pv_aload_0 (pc := 63) dX12_knotting_63 ?_
        refine pv_getR (pc := 64) dX12_knotting_64 fg_X12_27_12 rfl (by decide) (sx_61 hT) (rx_61_9 hR) ?_
        refine pv_iload_1 (pc := 67) dX12_knotting_67 ?_
        refine pv_ialoadj (pc := 68) dX12_knotting_68 (sx_64 hT) rfl h8 ?_
        refine pv_topv2 (y := J 2 f.toNatClampNeg) (by have e := (hM.2.1 f.toNatClampNeg (by rw [w_stB_1 _ _ 0 0 (by decide) (by decide)]; exact hn)).2.1; rw [w_stB_1 _ _ 2 _ (by decide) (by omega)] at e; exact e) ?_
        refine pv_isub (pc := 69) dX12_knotting_69 ?_
        refine pv_callVq (pc := 70) dX12_knotting_70 mgX12_calling lv_X12_399_12 (by decide) (sx_61 hT) (by omega) (c_X12_calling hT hR hW hM (by unfold w_isF; rw [w_stB_1 _ _ 0 0 (by decide) (by decide)]; exact hF) hr (by omega) (by omega)) rfl rfl (Nat.le_of_ble_eq_true rfl) (fun v t I L Rf hq => ?_)
        obtain ⟨rfl, rfl, rfl, rfl, hM, hX2⟩ := hq
        have hX := hX.tr hX2
        rw [w_calV_s]
        rw [w_stB_1 _ _ 1 _ (by decide) (by omega)] at hM
        refine pv_ixor (pc := 73) dX12_knotting_73 ?_
        refine pv_istore_4 (pc := 74) dX12_knotting_74 (by decide) rfl ?_
        refine pv_aload_0 (pc := 76) dX12_knotting_76 ?_
        refine pv_iload_3 (pc := 77) dX12_knotting_77 ?_
        refine pv_callV1 (pc := 78) dX12_knotting_78 mgX12_isTurn lv_X12_125_12 (by decide) (sx_61 hT) (by omega) (c_X12_isTurn ) rfl rfl (by decide) ?_
        refine pv_if_eq (pc := 81) (tgt := 89) dX12_knotting_81 (by decide) (fun h81 => ?_) (fun h81 => ?_)
        · refine pv_iload_3 (pc := 89) dX12_knotting_89 ?_
          refine pv_iconst (pc := 90) (v := 3) dX12_knotting_90 (by decide) ?_
          refine pv_icmp_ne (pc := 91) (tgt := 101) dX12_knotting_91 (by decide) (fun h91 => ?_) (fun h91 => ?_)
          · refine pv_iload_3 (pc := 101) dX12_knotting_101 ?_
            refine pv_bipush (pc := 102) (v := 6) dX12_knotting_102 (by decide) ?_
            refine pv_icmp_ne (pc := 104) (tgt := 114) dX12_knotting_104 (by decide) (fun h104 => ?_) (fun h104 => ?_)
            · refine pv_iload_4 (pc := 114) dX12_knotting_114 ?_
              refine pv_iret (pc := 116) dX12_knotting_116 rfl rfl ?_
              first
                | (exfalso; first | (have f1 := h9; have f2 := h21; rw [f1] at f2; exact absurd f2 (by decide)) | exact h9 h91 | exact h91 h9 | exact h21 h104 | exact h104 h21 | (have f1 := h35; have f2 := h81; exact f1 f2) | (have f1 := h35; have f2 := h81; exact f2 f1) | (have f1 := h9; have f2 := h104; rw [f1] at f2; exact absurd f2 (by decide)) | (have f1 := h21; have f2 := h91; rw [f1] at f2; exact absurd f2 (by decide)))
                | (refine ⟨?_, rfl, rfl, rfl, ?_, hX⟩
                   · unfold w_knV
                     first
                       | (have f1 := h9; rw [if_pos f1]; unfold w_knT; (first | (have g1 := (pv_b_n0 _).mp h35; rw [if_pos g1]; rfl) | (have g1 := (pv_b_0 _).mp h35; rw [if_neg (by rw [g1]; decide)]; rfl)))
                       | (have f1 := h9; have f2 := h21; rw [if_neg f1, if_pos f2]; unfold w_knT; (first | (have g1 := (pv_b_n0 _).mp h35; rw [if_pos g1]; rfl) | (have g1 := (pv_b_0 _).mp h35; rw [if_neg (by rw [g1]; decide)]; rfl)))
                       | (have f1 := h9; have f2 := h21; rw [if_neg f1, if_neg f2]; unfold w_knT; (first | (have g1 := (pv_b_n0 _).mp h35; rw [if_pos g1]; rfl) | (have g1 := (pv_b_0 _).mp h35; rw [if_neg (by rw [g1]; decide)]; rfl)))
                   · unfold w_knB
                     first
                       | (have f1 := h9; have eC : w_knC J (J 1 f.toNatClampNeg) = w_body J 41 := by (unfold w_knC; rw [if_pos f1])
                          rw [eC]; (first | (have g1 := (pv_b_n0 _).mp h35; rw [if_pos g1]; exact hM) | (have g1 := (pv_b_0 _).mp h35; rw [if_neg (by rw [g1]; decide)]; exact hM)))
                       | (have f1 := h9; have f2 := h21; have eC : w_knC J (J 1 f.toNatClampNeg) = w_body J 70 := by (unfold w_knC; rw [if_neg f1, if_pos f2])
                          rw [eC]; (first | (have g1 := (pv_b_n0 _).mp h35; rw [if_pos g1]; exact hM) | (have g1 := (pv_b_0 _).mp h35; rw [if_neg (by rw [g1]; decide)]; exact hM)))
                       | (have f1 := h9; have f2 := h21; have eC : w_knC J (J 1 f.toNatClampNeg) = J := by (unfold w_knC; rw [if_neg f1, if_neg f2])
                          rw [eC]; (first | (have g1 := (pv_b_n0 _).mp h35; rw [if_pos g1]; exact hM) | (have g1 := (pv_b_0 _).mp h35; rw [if_neg (by rw [g1]; decide)]; exact hM))))
            · refine pv_iload_4 (pc := 107) dX12_knotting_107 ?_
              refine pv_iconst (pc := 109) (v := 5) dX12_knotting_109 (by decide) ?_
              refine pv_ixor (pc := 110) dX12_knotting_110 ?_
              refine pv_goto (pc := 111) (tgt := 116) dX12_knotting_111 (by decide) ?_
              refine pv_iret (pc := 116) dX12_knotting_116 rfl rfl ?_
              first
                | (exfalso; first | (have f1 := h9; have f2 := h21; rw [f1] at f2; exact absurd f2 (by decide)) | exact h9 h91 | exact h91 h9 | exact h21 h104 | exact h104 h21 | (have f1 := h35; have f2 := h81; exact f1 f2) | (have f1 := h35; have f2 := h81; exact f2 f1) | (have f1 := h9; have f2 := h104; rw [f1] at f2; exact absurd f2 (by decide)) | (have f1 := h21; have f2 := h91; rw [f1] at f2; exact absurd f2 (by decide)))
                | (refine ⟨?_, rfl, rfl, rfl, ?_, hX⟩
                   · unfold w_knV
                     first
                       | (have f1 := h9; rw [if_pos f1]; unfold w_knT; (first | (have g1 := (pv_b_n0 _).mp h35; rw [if_pos g1]; rfl) | (have g1 := (pv_b_0 _).mp h35; rw [if_neg (by rw [g1]; decide)]; rfl)))
                       | (have f1 := h9; have f2 := h21; rw [if_neg f1, if_pos f2]; unfold w_knT; (first | (have g1 := (pv_b_n0 _).mp h35; rw [if_pos g1]; rfl) | (have g1 := (pv_b_0 _).mp h35; rw [if_neg (by rw [g1]; decide)]; rfl)))
                       | (have f1 := h9; have f2 := h21; rw [if_neg f1, if_neg f2]; unfold w_knT; (first | (have g1 := (pv_b_n0 _).mp h35; rw [if_pos g1]; rfl) | (have g1 := (pv_b_0 _).mp h35; rw [if_neg (by rw [g1]; decide)]; rfl)))
                   · unfold w_knB
                     first
                       | (have f1 := h9; have eC : w_knC J (J 1 f.toNatClampNeg) = w_body J 41 := by (unfold w_knC; rw [if_pos f1])
                          rw [eC]; (first | (have g1 := (pv_b_n0 _).mp h35; rw [if_pos g1]; exact hM) | (have g1 := (pv_b_0 _).mp h35; rw [if_neg (by rw [g1]; decide)]; exact hM)))
                       | (have f1 := h9; have f2 := h21; have eC : w_knC J (J 1 f.toNatClampNeg) = w_body J 70 := by (unfold w_knC; rw [if_neg f1, if_pos f2])
                          rw [eC]; (first | (have g1 := (pv_b_n0 _).mp h35; rw [if_pos g1]; exact hM) | (have g1 := (pv_b_0 _).mp h35; rw [if_neg (by rw [g1]; decide)]; exact hM)))
                       | (have f1 := h9; have f2 := h21; have eC : w_knC J (J 1 f.toNatClampNeg) = J := by (unfold w_knC; rw [if_neg f1, if_neg f2])
                          rw [eC]; (first | (have g1 := (pv_b_n0 _).mp h35; rw [if_pos g1]; exact hM) | (have g1 := (pv_b_0 _).mp h35; rw [if_neg (by rw [g1]; decide)]; exact hM))))
          · refine pv_iload_4 (pc := 94) dX12_knotting_94 ?_
            refine pv_iload_1 (pc := 96) dX12_knotting_96 ?_
            refine pv_isub (pc := 97) dX12_knotting_97 ?_
            refine pv_goto (pc := 98) (tgt := 116) dX12_knotting_98 (by decide) ?_
            refine pv_iret (pc := 116) dX12_knotting_116 rfl rfl ?_
            first
              | (exfalso; first | (have f1 := h9; have f2 := h21; rw [f1] at f2; exact absurd f2 (by decide)) | exact h9 h91 | exact h91 h9 | exact h21 h104 | exact h104 h21 | (have f1 := h35; have f2 := h81; exact f1 f2) | (have f1 := h35; have f2 := h81; exact f2 f1) | (have f1 := h9; have f2 := h104; rw [f1] at f2; exact absurd f2 (by decide)) | (have f1 := h21; have f2 := h91; rw [f1] at f2; exact absurd f2 (by decide)))
              | (refine ⟨?_, rfl, rfl, rfl, ?_, hX⟩
                 · unfold w_knV
                   first
                     | (have f1 := h9; rw [if_pos f1]; unfold w_knT; (first | (have g1 := (pv_b_n0 _).mp h35; rw [if_pos g1]; rfl) | (have g1 := (pv_b_0 _).mp h35; rw [if_neg (by rw [g1]; decide)]; rfl)))
                     | (have f1 := h9; have f2 := h21; rw [if_neg f1, if_pos f2]; unfold w_knT; (first | (have g1 := (pv_b_n0 _).mp h35; rw [if_pos g1]; rfl) | (have g1 := (pv_b_0 _).mp h35; rw [if_neg (by rw [g1]; decide)]; rfl)))
                     | (have f1 := h9; have f2 := h21; rw [if_neg f1, if_neg f2]; unfold w_knT; (first | (have g1 := (pv_b_n0 _).mp h35; rw [if_pos g1]; rfl) | (have g1 := (pv_b_0 _).mp h35; rw [if_neg (by rw [g1]; decide)]; rfl)))
                 · unfold w_knB
                   first
                     | (have f1 := h9; have eC : w_knC J (J 1 f.toNatClampNeg) = w_body J 41 := by (unfold w_knC; rw [if_pos f1])
                        rw [eC]; (first | (have g1 := (pv_b_n0 _).mp h35; rw [if_pos g1]; exact hM) | (have g1 := (pv_b_0 _).mp h35; rw [if_neg (by rw [g1]; decide)]; exact hM)))
                     | (have f1 := h9; have f2 := h21; have eC : w_knC J (J 1 f.toNatClampNeg) = w_body J 70 := by (unfold w_knC; rw [if_neg f1, if_pos f2])
                        rw [eC]; (first | (have g1 := (pv_b_n0 _).mp h35; rw [if_pos g1]; exact hM) | (have g1 := (pv_b_0 _).mp h35; rw [if_neg (by rw [g1]; decide)]; exact hM)))
                     | (have f1 := h9; have f2 := h21; have eC : w_knC J (J 1 f.toNatClampNeg) = J := by (unfold w_knC; rw [if_neg f1, if_neg f2])
                        rw [eC]; (first | (have g1 := (pv_b_n0 _).mp h35; rw [if_pos g1]; exact hM) | (have g1 := (pv_b_0 _).mp h35; rw [if_neg (by rw [g1]; decide)]; exact hM))))
        · refine pv_iload_4 (pc := 84) dX12_knotting_84 ?_
          refine pv_ineg (pc := 86) dX12_knotting_86 ?_
          refine pv_istore_4 (pc := 87) dX12_knotting_87 (by decide) rfl ?_
          refine pv_iload_3 (pc := 89) dX12_knotting_89 ?_
          refine pv_iconst (pc := 90) (v := 3) dX12_knotting_90 (by decide) ?_
          refine pv_icmp_ne (pc := 91) (tgt := 101) dX12_knotting_91 (by decide) (fun h91 => ?_) (fun h91 => ?_)
          · refine pv_iload_3 (pc := 101) dX12_knotting_101 ?_
            refine pv_bipush (pc := 102) (v := 6) dX12_knotting_102 (by decide) ?_
            refine pv_icmp_ne (pc := 104) (tgt := 114) dX12_knotting_104 (by decide) (fun h104 => ?_) (fun h104 => ?_)
            · refine pv_iload_4 (pc := 114) dX12_knotting_114 ?_
              refine pv_iret (pc := 116) dX12_knotting_116 rfl rfl ?_
              first
                | (exfalso; first | (have f1 := h9; have f2 := h21; rw [f1] at f2; exact absurd f2 (by decide)) | exact h9 h91 | exact h91 h9 | exact h21 h104 | exact h104 h21 | (have f1 := h35; have f2 := h81; exact f1 f2) | (have f1 := h35; have f2 := h81; exact f2 f1) | (have f1 := h9; have f2 := h104; rw [f1] at f2; exact absurd f2 (by decide)) | (have f1 := h21; have f2 := h91; rw [f1] at f2; exact absurd f2 (by decide)))
                | (refine ⟨?_, rfl, rfl, rfl, ?_, hX⟩
                   · unfold w_knV
                     first
                       | (have f1 := h9; rw [if_pos f1]; unfold w_knT; (first | (have g1 := (pv_b_n0 _).mp h35; rw [if_pos g1]; rfl) | (have g1 := (pv_b_0 _).mp h35; rw [if_neg (by rw [g1]; decide)]; rfl)))
                       | (have f1 := h9; have f2 := h21; rw [if_neg f1, if_pos f2]; unfold w_knT; (first | (have g1 := (pv_b_n0 _).mp h35; rw [if_pos g1]; rfl) | (have g1 := (pv_b_0 _).mp h35; rw [if_neg (by rw [g1]; decide)]; rfl)))
                       | (have f1 := h9; have f2 := h21; rw [if_neg f1, if_neg f2]; unfold w_knT; (first | (have g1 := (pv_b_n0 _).mp h35; rw [if_pos g1]; rfl) | (have g1 := (pv_b_0 _).mp h35; rw [if_neg (by rw [g1]; decide)]; rfl)))
                   · unfold w_knB
                     first
                       | (have f1 := h9; have eC : w_knC J (J 1 f.toNatClampNeg) = w_body J 41 := by (unfold w_knC; rw [if_pos f1])
                          rw [eC]; (first | (have g1 := (pv_b_n0 _).mp h35; rw [if_pos g1]; exact hM) | (have g1 := (pv_b_0 _).mp h35; rw [if_neg (by rw [g1]; decide)]; exact hM)))
                       | (have f1 := h9; have f2 := h21; have eC : w_knC J (J 1 f.toNatClampNeg) = w_body J 70 := by (unfold w_knC; rw [if_neg f1, if_pos f2])
                          rw [eC]; (first | (have g1 := (pv_b_n0 _).mp h35; rw [if_pos g1]; exact hM) | (have g1 := (pv_b_0 _).mp h35; rw [if_neg (by rw [g1]; decide)]; exact hM)))
                       | (have f1 := h9; have f2 := h21; have eC : w_knC J (J 1 f.toNatClampNeg) = J := by (unfold w_knC; rw [if_neg f1, if_neg f2])
                          rw [eC]; (first | (have g1 := (pv_b_n0 _).mp h35; rw [if_pos g1]; exact hM) | (have g1 := (pv_b_0 _).mp h35; rw [if_neg (by rw [g1]; decide)]; exact hM))))
            · refine pv_iload_4 (pc := 107) dX12_knotting_107 ?_
              refine pv_iconst (pc := 109) (v := 5) dX12_knotting_109 (by decide) ?_
              refine pv_ixor (pc := 110) dX12_knotting_110 ?_
              refine pv_goto (pc := 111) (tgt := 116) dX12_knotting_111 (by decide) ?_
              refine pv_iret (pc := 116) dX12_knotting_116 rfl rfl ?_
              first
                | (exfalso; first | (have f1 := h9; have f2 := h21; rw [f1] at f2; exact absurd f2 (by decide)) | exact h9 h91 | exact h91 h9 | exact h21 h104 | exact h104 h21 | (have f1 := h35; have f2 := h81; exact f1 f2) | (have f1 := h35; have f2 := h81; exact f2 f1) | (have f1 := h9; have f2 := h104; rw [f1] at f2; exact absurd f2 (by decide)) | (have f1 := h21; have f2 := h91; rw [f1] at f2; exact absurd f2 (by decide)))
                | (refine ⟨?_, rfl, rfl, rfl, ?_, hX⟩
                   · unfold w_knV
                     first
                       | (have f1 := h9; rw [if_pos f1]; unfold w_knT; (first | (have g1 := (pv_b_n0 _).mp h35; rw [if_pos g1]; rfl) | (have g1 := (pv_b_0 _).mp h35; rw [if_neg (by rw [g1]; decide)]; rfl)))
                       | (have f1 := h9; have f2 := h21; rw [if_neg f1, if_pos f2]; unfold w_knT; (first | (have g1 := (pv_b_n0 _).mp h35; rw [if_pos g1]; rfl) | (have g1 := (pv_b_0 _).mp h35; rw [if_neg (by rw [g1]; decide)]; rfl)))
                       | (have f1 := h9; have f2 := h21; rw [if_neg f1, if_neg f2]; unfold w_knT; (first | (have g1 := (pv_b_n0 _).mp h35; rw [if_pos g1]; rfl) | (have g1 := (pv_b_0 _).mp h35; rw [if_neg (by rw [g1]; decide)]; rfl)))
                   · unfold w_knB
                     first
                       | (have f1 := h9; have eC : w_knC J (J 1 f.toNatClampNeg) = w_body J 41 := by (unfold w_knC; rw [if_pos f1])
                          rw [eC]; (first | (have g1 := (pv_b_n0 _).mp h35; rw [if_pos g1]; exact hM) | (have g1 := (pv_b_0 _).mp h35; rw [if_neg (by rw [g1]; decide)]; exact hM)))
                       | (have f1 := h9; have f2 := h21; have eC : w_knC J (J 1 f.toNatClampNeg) = w_body J 70 := by (unfold w_knC; rw [if_neg f1, if_pos f2])
                          rw [eC]; (first | (have g1 := (pv_b_n0 _).mp h35; rw [if_pos g1]; exact hM) | (have g1 := (pv_b_0 _).mp h35; rw [if_neg (by rw [g1]; decide)]; exact hM)))
                       | (have f1 := h9; have f2 := h21; have eC : w_knC J (J 1 f.toNatClampNeg) = J := by (unfold w_knC; rw [if_neg f1, if_neg f2])
                          rw [eC]; (first | (have g1 := (pv_b_n0 _).mp h35; rw [if_pos g1]; exact hM) | (have g1 := (pv_b_0 _).mp h35; rw [if_neg (by rw [g1]; decide)]; exact hM))))
          · refine pv_iload_4 (pc := 94) dX12_knotting_94 ?_
            refine pv_iload_1 (pc := 96) dX12_knotting_96 ?_
            refine pv_isub (pc := 97) dX12_knotting_97 ?_
            refine pv_goto (pc := 98) (tgt := 116) dX12_knotting_98 (by decide) ?_
            refine pv_iret (pc := 116) dX12_knotting_116 rfl rfl ?_
            first
              | (exfalso; first | (have f1 := h9; have f2 := h21; rw [f1] at f2; exact absurd f2 (by decide)) | exact h9 h91 | exact h91 h9 | exact h21 h104 | exact h104 h21 | (have f1 := h35; have f2 := h81; exact f1 f2) | (have f1 := h35; have f2 := h81; exact f2 f1) | (have f1 := h9; have f2 := h104; rw [f1] at f2; exact absurd f2 (by decide)) | (have f1 := h21; have f2 := h91; rw [f1] at f2; exact absurd f2 (by decide)))
              | (refine ⟨?_, rfl, rfl, rfl, ?_, hX⟩
                 · unfold w_knV
                   first
                     | (have f1 := h9; rw [if_pos f1]; unfold w_knT; (first | (have g1 := (pv_b_n0 _).mp h35; rw [if_pos g1]; rfl) | (have g1 := (pv_b_0 _).mp h35; rw [if_neg (by rw [g1]; decide)]; rfl)))
                     | (have f1 := h9; have f2 := h21; rw [if_neg f1, if_pos f2]; unfold w_knT; (first | (have g1 := (pv_b_n0 _).mp h35; rw [if_pos g1]; rfl) | (have g1 := (pv_b_0 _).mp h35; rw [if_neg (by rw [g1]; decide)]; rfl)))
                     | (have f1 := h9; have f2 := h21; rw [if_neg f1, if_neg f2]; unfold w_knT; (first | (have g1 := (pv_b_n0 _).mp h35; rw [if_pos g1]; rfl) | (have g1 := (pv_b_0 _).mp h35; rw [if_neg (by rw [g1]; decide)]; rfl)))
                 · unfold w_knB
                   first
                     | (have f1 := h9; have eC : w_knC J (J 1 f.toNatClampNeg) = w_body J 41 := by (unfold w_knC; rw [if_pos f1])
                        rw [eC]; (first | (have g1 := (pv_b_n0 _).mp h35; rw [if_pos g1]; exact hM) | (have g1 := (pv_b_0 _).mp h35; rw [if_neg (by rw [g1]; decide)]; exact hM)))
                     | (have f1 := h9; have f2 := h21; have eC : w_knC J (J 1 f.toNatClampNeg) = w_body J 70 := by (unfold w_knC; rw [if_neg f1, if_pos f2])
                        rw [eC]; (first | (have g1 := (pv_b_n0 _).mp h35; rw [if_pos g1]; exact hM) | (have g1 := (pv_b_0 _).mp h35; rw [if_neg (by rw [g1]; decide)]; exact hM)))
                     | (have f1 := h9; have f2 := h21; have eC : w_knC J (J 1 f.toNatClampNeg) = J := by (unfold w_knC; rw [if_neg f1, if_neg f2])
                        rw [eC]; (first | (have g1 := (pv_b_n0 _).mp h35; rw [if_pos g1]; exact hM) | (have g1 := (pv_b_0 _).mp h35; rw [if_neg (by rw [g1]; decide)]; exact hM))))

def w_r0 (J : pv_I) : pv_I := pv_u J 0 5 0
def S_act (J : pv_I) (K : pv_L) (f a x : Int32) : SR := if (0 ≤ f ∧ f < J 0 0) ∧ 0 ≤ a ∧ a ≤ 2 then (if a = 0 then (.int (w_calV J f.toNatClampNeg f x), w_calB (w_r0 J) (J 1 f.toNatClampNeg), K) else if a = 1 then (.int (w_stV J f.toNatClampNeg f x), w_stB (w_r0 J) (J 1 f.toNatClampNeg), K) else (.int (w_knV J f.toNatClampNeg f x), w_knB (w_r0 J) (J 1 f.toNatClampNeg), K)) else (.int 0, w_r0 J, K)
theorem RM.r0 {J : pv_I} {K : pv_L} {I : pv_I} {L : pv_L} (h : RM J K I L) : RM (w_r0 J) K (pv_u I 61 59 0) L := by
  obtain ⟨⟨e0, e1, e2, e3, e4, e5, e6, e7, e8⟩, g2, g3, g4, g5, g6, g7, g8⟩ := h
  refine ⟨⟨e0, e1, e2, e3, e4, rfl, e6, e7, e8⟩, g2, g3, g4, g5, fun i hi hi2 => ?_, g7, g8⟩
  have hi3 : (i : Int) < (0 : Int32).toInt := hi2
  rw [Int32.toInt_zero] at hi3
  omega
theorem r0_wf {J : pv_I} {K : pv_L} (h : WF J K) : WF (w_r0 J) K := h.act (fun a j _ h2 => by unfold w_r0; rw [pv_u_app, if_neg h2])
theorem r0_n (J : pv_I) : 0 ≤ (w_r0 J 0 5).toInt ∧ (w_r0 J 0 5).toInt ≤ (0 : Nat) := by
  show 0 ≤ (0 : Int32).toInt ∧ (0 : Int32).toInt ≤ (0 : Nat)
  rw [Int32.toInt_zero]; exact ⟨by decide, by decide⟩
set_option maxRecDepth 100000 in
set_option maxHeartbeats 4000000 in
theorem c_X12_act {G : pv_G} {d : Nat} {J : pv_I} {K : pv_L} {f a x : Int32} {t : pv_T} {I : pv_I} {L : pv_L} {Rf : pv_R} (hT : sh_ok t) (hR : rf_ok Rf) (hW : WF J K) (hM : RM J K I L) (hd : 6 ≤ d) : pv_Mt G mX12_act d 0 0 [.ref 61, .int f, .int a, .int x] t I L Rf (qM (S_act J K f a x) t I L Rf) := by
  refine pv_mt mgX12_act.2.2.2.2.2 [.ref 61, .int f, .int a, .int x] rfl (Nat.le_of_ble_eq_true rfl) ?_
  obtain ⟨⟨m0, m1, m2, m3, m4, m5, m6, m7, m8⟩, mf, mst, mh, mr, mt, mc, mi⟩ := id hM
  have hM2 := hM.r0
  have hW2 := r0_wf hW
  refine pv_aload_0 (pc := 0) dX12_act_0 ?_
  refine pv_iconst (pc := 1) (v := 0) dX12_act_1 (by decide) ?_
  refine pv_putI (pc := 2) dX12_act_2 fl_X12_393_12 (fun q => by cases q) ⟨rfl, rfl, rfl⟩ (by decide) (sx_61 hT) ?_
  refine pv_aload_0 (pc := 5) dX12_act_5 ?_
  refine pv_iload_1 (pc := 6) dX12_act_6 ?_
  refine pv_callV1 (pc := 7) dX12_act_7 mgX12_isFigure lv_X12_119_12 (by decide) (sx_61 hT) (by omega) (c_X12_isFigure hT) rfl rfl (by decide) ?_
  refine pv_if_eq (pc := 10) (tgt := 22) dX12_act_10 (by decide) (fun h10 => ?_) (fun h10 => ?_)
  · refine pv_iconst (pc := 22) (v := 0) dX12_act_22 (by decide) ?_
    refine pv_iret (pc := 23) dX12_act_23 rfl rfl ?_
    have e : S_act J K f a x = (.int 0, w_r0 J, K) := by
      unfold S_act
      rw [if_neg]
      rintro ⟨g1, g2, g3⟩
      first
        | (have hN := isF0 hM h10; unfold w_isF at hN; exact hN g1)
        | (have f1 := h14; rw [i_lt] at f1; rw [i_le] at g2; omega)
        | (have f1 := h19; rw [i_lt] at f1; rw [i_le] at g3; omega)
    rw [e]; exact ⟨rfl, rfl, rfl, hM2, kX.rf.uI 61 59 0 (by decide)⟩
  · refine pv_iload_2 (pc := 13) dX12_act_13 ?_
    refine pv_if_lt (pc := 14) (tgt := 22) dX12_act_14 (by decide) (fun h14 => ?_) (fun h14 => ?_)
    · refine pv_iconst (pc := 22) (v := 0) dX12_act_22 (by decide) ?_
      refine pv_iret (pc := 23) dX12_act_23 rfl rfl ?_
      have e : S_act J K f a x = (.int 0, w_r0 J, K) := by
        unfold S_act
        rw [if_neg]
        rintro ⟨g1, g2, g3⟩
        first
          | (have hN := isF0 hM h10; unfold w_isF at hN; exact hN g1)
          | (have f1 := h14; rw [i_lt] at f1; rw [i_le] at g2; omega)
          | (have f1 := h19; rw [i_lt] at f1; rw [i_le] at g3; omega)
      rw [e]; exact ⟨rfl, rfl, rfl, hM2, kX.rf.uI 61 59 0 (by decide)⟩
    · refine pv_iload_2 (pc := 17) dX12_act_17 ?_
      refine pv_iconst (pc := 18) (v := 2) dX12_act_18 (by decide) ?_
      refine pv_icmp_le (pc := 19) (tgt := 24) dX12_act_19 (by decide) (fun h19 => ?_) (fun h19 => ?_)
      · refine pv_iload_2 (pc := 24) dX12_act_24 ?_
        refine pv_if_ne (pc := 25) (tgt := 37) dX12_act_25 (by decide) (fun h25 => ?_) (fun h25 => ?_)
        · refine pv_iload_2 (pc := 37) dX12_act_37 ?_
          refine pv_iconst (pc := 38) (v := 1) dX12_act_38 (by decide) ?_
          refine pv_icmp_ne (pc := 39) (tgt := 51) dX12_act_39 (by decide) (fun h39 => ?_) (fun h39 => ?_)
          · refine pv_aload_0 (pc := 51) dX12_act_51 ?_
            refine pv_iload_1 (pc := 52) dX12_act_52 ?_
            refine pv_iload_3 (pc := 53) dX12_act_53 ?_
            refine pv_callVq (pc := 54) dX12_act_54 mgX12_knotting lv_X12_405_12 (by decide) (sx_61 hT) (by omega) (c_X12_knotting (J := w_r0 J) hT hR hW2 hM2 (isF1 hM h10) (r0_n J) (by omega) (by omega)) rfl rfl (by decide) (fun v t I L Rf hq => ?_)
            obtain ⟨rfl, rfl, rfl, rfl, q4, q5⟩ := hq
            have hF := isF1 hM h10
            unfold w_isF at hF
            refine pv_iret (pc := 57) dX12_act_57 rfl rfl ?_
            have hA : (0 ≤ f ∧ f < J 0 0) ∧ 0 ≤ a ∧ a ≤ 2 := ⟨hF, by rw [i_le]; rw [i_lt] at h14; omega, by rw [i_le]; rw [i_lt] at h19; omega⟩
            unfold S_act
            rw [if_pos hA]
            first
              | (have f1 := h25; rw [if_pos f1]; exact ⟨rfl, rfl, rfl, q4, (kX.rf.uI 61 59 0 (by decide)).tr q5⟩)
              | (have f1 := h25; have f2 := h39; rw [if_neg f1, if_pos f2]; exact ⟨rfl, rfl, rfl, q4, (kX.rf.uI 61 59 0 (by decide)).tr q5⟩)
              | (have f1 := h25; have f2 := h39; rw [if_neg f1, if_neg f2]; exact ⟨rfl, rfl, rfl, q4, (kX.rf.uI 61 59 0 (by decide)).tr q5⟩)
          · refine pv_aload_0 (pc := 42) dX12_act_42 ?_
            refine pv_iload_1 (pc := 43) dX12_act_43 ?_
            refine pv_iload_3 (pc := 44) dX12_act_44 ?_
            refine pv_callVq (pc := 45) dX12_act_45 mgX12_stepping lv_X12_402_12 (by decide) (sx_61 hT) (by omega) (c_X12_stepping (J := w_r0 J) hT hR hW2 hM2 (isF1 hM h10) (r0_n J) (by omega) (by omega)) rfl rfl (by decide) (fun v t I L Rf hq => ?_)
            obtain ⟨rfl, rfl, rfl, rfl, q4, q5⟩ := hq
            have hF := isF1 hM h10
            unfold w_isF at hF
            refine pv_goto (pc := 48) (tgt := 57) dX12_act_48 (by decide) ?_
            refine pv_iret (pc := 57) dX12_act_57 rfl rfl ?_
            have hA : (0 ≤ f ∧ f < J 0 0) ∧ 0 ≤ a ∧ a ≤ 2 := ⟨hF, by rw [i_le]; rw [i_lt] at h14; omega, by rw [i_le]; rw [i_lt] at h19; omega⟩
            unfold S_act
            rw [if_pos hA]
            first
              | (have f1 := h25; rw [if_pos f1]; exact ⟨rfl, rfl, rfl, q4, (kX.rf.uI 61 59 0 (by decide)).tr q5⟩)
              | (have f1 := h25; have f2 := h39; rw [if_neg f1, if_pos f2]; exact ⟨rfl, rfl, rfl, q4, (kX.rf.uI 61 59 0 (by decide)).tr q5⟩)
              | (have f1 := h25; have f2 := h39; rw [if_neg f1, if_neg f2]; exact ⟨rfl, rfl, rfl, q4, (kX.rf.uI 61 59 0 (by decide)).tr q5⟩)
        · refine pv_aload_0 (pc := 28) dX12_act_28 ?_
          refine pv_iload_1 (pc := 29) dX12_act_29 ?_
          refine pv_iload_3 (pc := 30) dX12_act_30 ?_
          refine pv_callVq (pc := 31) dX12_act_31 mgX12_calling lv_X12_399_12 (by decide) (sx_61 hT) (by omega) (c_X12_calling (J := w_r0 J) hT hR hW2 hM2 (isF1 hM h10) (r0_n J) (by omega) (by omega)) rfl rfl (by decide) (fun v t I L Rf hq => ?_)
          obtain ⟨rfl, rfl, rfl, rfl, q4, q5⟩ := hq
          have hF := isF1 hM h10
          unfold w_isF at hF
          refine pv_goto (pc := 34) (tgt := 57) dX12_act_34 (by decide) ?_
          refine pv_iret (pc := 57) dX12_act_57 rfl rfl ?_
          have hA : (0 ≤ f ∧ f < J 0 0) ∧ 0 ≤ a ∧ a ≤ 2 := ⟨hF, by rw [i_le]; rw [i_lt] at h14; omega, by rw [i_le]; rw [i_lt] at h19; omega⟩
          unfold S_act
          rw [if_pos hA]
          first
            | (have f1 := h25; rw [if_pos f1]; exact ⟨rfl, rfl, rfl, q4, (kX.rf.uI 61 59 0 (by decide)).tr q5⟩)
            | (have f1 := h25; have f2 := h39; rw [if_neg f1, if_pos f2]; exact ⟨rfl, rfl, rfl, q4, (kX.rf.uI 61 59 0 (by decide)).tr q5⟩)
            | (have f1 := h25; have f2 := h39; rw [if_neg f1, if_neg f2]; exact ⟨rfl, rfl, rfl, q4, (kX.rf.uI 61 59 0 (by decide)).tr q5⟩)
      · refine pv_iconst (pc := 22) (v := 0) dX12_act_22 (by decide) ?_
        refine pv_iret (pc := 23) dX12_act_23 rfl rfl ?_
        have e : S_act J K f a x = (.int 0, w_r0 J, K) := by
          unfold S_act
          rw [if_neg]
          rintro ⟨g1, g2, g3⟩
          first
            | (have hN := isF0 hM h10; unfold w_isF at hN; exact hN g1)
            | (have f1 := h14; rw [i_lt] at f1; rw [i_le] at g2; omega)
            | (have f1 := h19; rw [i_lt] at f1; rw [i_le] at g3; omega)
        rw [e]; exact ⟨rfl, rfl, rfl, hM2, kX.rf.uI 61 59 0 (by decide)⟩

