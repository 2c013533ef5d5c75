/-! undo, undoes, made; stepped, frees, draws -/
theorem u_ok_of {p q : Int64} (h : s_isN p q) : u_ok p q := by
  obtain ⟨h1, h2, h3, h4, h5⟩ := h
  refine ⟨h1, h2, h3, h4, fun h6 => ?_⟩
  by_cases e : q.toInt = 0
  · rw [if_pos e] at h5; omega
  · omega
def S_undo (J : pv_I) (K : pv_L) : SR := (.long (u_n (K 0 0) (K 0 1)), J, K)
def S_undoes (J : pv_I) (K : pv_L) (i : Int64) : SR := if i < 0 ∨ ¬ i < u_n (K 0 0) (K 0 1) then S_ref J K 5 (.int (-5)) else (.int (u_i (K 0 0) (K 0 1) i), J, K)
def S_made (J : pv_I) (K : pv_L) (a b i : Int64) : SR := if s_num a b = true then (if i < 0 ∨ ¬ i < u_n a b then S_ref J K 5 (.int (-5)) else (.int (if u_i a b (u_n a b - 1 - i) = 0 then 1 else 2), J, K)) else S_ref J K 6 (.int (-6))
theorem k_lt5b : 5 < 8 := by decide

set_option maxRecDepth 100000 in
set_option maxHeartbeats 4000000 in
theorem c_X12_undo {G : pv_G} {d : Nat} {J : pv_I} {K : pv_L}  {t : pv_T} {I : pv_I} {L : pv_L} {Rf : pv_R} (hT : sh_ok t) (hR : rf_ok Rf) (hW : WF J K) (hM : RM J K I L) (hd : 6 ≤ d) : pv_Mt G mX12_undo d 0 0 [.ref 61] t I L Rf (qM (S_undo J K) t I L Rf) := by
  refine pv_mt mgX12_undo.2.2.2.2.2 [.ref 61] rfl (Nat.le_of_ble_eq_true rfl) ?_
  obtain ⟨⟨m0, m1, m2, m3, m4, m5, m6, m7, m8⟩, mf, mst, mh, mr, mt, mc, mi⟩ := id hM
  have hok : u_ok (L 61 5) (L 61 6) := by rw [m7, m8]; exact u_ok_of hW.2.2.1
  refine pv_aload_0 (pc := 0) dX12_undo_0 ?_
  refine pv_aload_0 (pc := 1) dX12_undo_1 ?_
  refine pv_getL (pc := 2) dX12_undo_2 fg_X12_147_12 (by decide) (sx_61 hT) ?_
  refine pv_aload_0 (pc := 5) dX12_undo_5 ?_
  refine pv_getL (pc := 6) dX12_undo_6 fg_X12_16_12 (by decide) (sx_61 hT) ?_
  refine pv_ldc2 (pc := 9) dX12_undo_9 k_X12_274 ?_
  refine pv_callVq (pc := 12) dX12_undo_12 mgX12_undone lv_X12_276_12 (by decide) (sx_61 hT) (by omega) (c_X12_undone hT hok (by omega)) rfl rfl (by decide) (fun v t I L Rf hq => ?_)
  obtain ⟨rfl, rfl, rfl, hk, he⟩ := hq
  refine pv_lret (pc := 15) dX12_undo_15 rfl ?_
  refine qM.scr hM hk ?_; unfold S_undo; rw [m7, m8]

set_option maxRecDepth 100000 in
set_option maxHeartbeats 4000000 in
theorem c_X12_undoes {G : pv_G} {d : Nat} {J : pv_I} {K : pv_L} {i : Int64} {t : pv_T} {I : pv_I} {L : pv_L} {Rf : pv_R} (hT : sh_ok t) (hR : rf_ok Rf) (hW : WF J K) (hM : RM J K I L) (hd : 6 ≤ d) : pv_Mt G mX12_undoes d 0 0 [.ref 61, .long i] t I L Rf (qM (S_undoes J K i) t I L Rf) := by
  refine pv_mt mgX12_undoes.2.2.2.2.2 [.ref 61, .long i, .retAddr 0] rfl (Nat.le_of_ble_eq_true rfl) ?_
  obtain ⟨⟨m0, m1, m2, m3, m4, m5, m6, m7, m8⟩, mf, mst, mh, mr, mt, mc, mi⟩ := id hM
  have hok : u_ok (L 61 5) (L 61 6) := by rw [m7, m8]; exact u_ok_of hW.2.2.1
  refine pv_lload_1 (pc := 0) dX12_undoes_0 ?_
  refine pv_lconst (pc := 1) (v := 0) dX12_undoes_1 (by decide) ?_
  refine pv_lcmp_lt (pc := 2) (tgt := 26) dX12_undoes_2 dX12_undoes_3 (by decide) (fun h2 => ?_) (fun h2 => ?_)
  · refine pv_aload_0 (pc := 26) dX12_undoes_26 ?_
    refine pv_bipush (pc := 27) (v := (-5)) dX12_undoes_27 (by decide) ?_
    refine pv_callV1 (pc := 29) dX12_undoes_29 mgX12_no lv_X12_115_12 (by decide) (sx_61 hT) (by omega) (c_X12_no (k := 5) hT hR (by decide) (by unfold vp_in; decide)) rfl rfl (by decide) ?_
    refine pv_iret (pc := 32) dX12_undoes_32 rfl rfl ?_
    first
      | (have f1 := h2; refine qM.ref hM k_lt5b ?_; unfold S_undoes; rw [if_pos (Or.inl f1)]; done)
      | (have f1 := h22; refine qM.scrref hM hk k_lt5b ?_; unfold S_undoes; rw [if_pos (Or.inr f1)]; done)
  · refine pv_lload_1 (pc := 6) dX12_undoes_6 ?_
    refine pv_aload_0 (pc := 7) dX12_undoes_7 ?_
    refine pv_aload_0 (pc := 8) dX12_undoes_8 ?_
    refine pv_getL (pc := 9) dX12_undoes_9 fg_X12_147_12 (by decide) (sx_61 hT) ?_
    refine pv_aload_0 (pc := 12) dX12_undoes_12 ?_
    refine pv_getL (pc := 13) dX12_undoes_13 fg_X12_16_12 (by decide) (sx_61 hT) ?_
    refine pv_ldc2 (pc := 16) dX12_undoes_16 k_X12_274 ?_
    refine pv_callVq (pc := 19) dX12_undoes_19 mgX12_undone lv_X12_276_12 (by decide) (sx_61 hT) (by omega) (c_X12_undone hT hok (by omega)) rfl rfl (Nat.le_of_ble_eq_true rfl) (fun v t I L Rf hq => ?_)
    obtain ⟨rfl, rfl, rfl, hk, he⟩ := hq
    have hM1 := hM.scr hk
    have n7 := hM1.1.2.2.2.2.2.2.2.1
    have n8 := hM1.1.2.2.2.2.2.2.2.2
    have hok1 : u_ok (L 61 5) (L 61 6) := by rw [n7, n8]; exact u_ok_of hW.2.2.1
    rw [m7, m8]
    refine pv_lcmp_lt (pc := 22) (tgt := 33) dX12_undoes_22 dX12_undoes_23 (by decide) (fun h22 => ?_) (fun h22 => ?_)
    · refine pv_aload_0 (pc := 33) dX12_undoes_33 ?_
      refine pv_aload_0 (pc := 34) dX12_undoes_34 ?_
      refine pv_getL (pc := 35) dX12_undoes_35 fg_X12_147_12 (by decide) (sx_61 hT) ?_
      refine pv_aload_0 (pc := 38) dX12_undoes_38 ?_
      refine pv_getL (pc := 39) dX12_undoes_39 fg_X12_16_12 (by decide) (sx_61 hT) ?_
      refine pv_lload_1 (pc := 42) dX12_undoes_42 ?_
      refine pv_callVq (pc := 43) dX12_undoes_43 mgX12_undone lv_X12_276_12 (by decide) (sx_61 hT) (by omega) (c_X12_undone hT hok1 (by omega)) rfl rfl (by decide) (fun v t I L Rf hq => ?_)
      obtain ⟨rfl, rfl, rfl, hk2, he2⟩ := hq
      refine pv_pop2 (pc := 46) dX12_undoes_46 ?_
      refine pv_aload_0 (pc := 47) dX12_undoes_47 ?_
      refine pv_getI (pc := 48) dX12_undoes_48 fg_X12_263_12 rfl (by decide) (sx_61 hT) ?_
      refine pv_iret (pc := 51) dX12_undoes_51 rfl rfl ?_
      refine qM.scr hM (hk.tr hk2) ?_; unfold S_undoes; rw [if_neg (fun r => r.elim h2 (fun g => g h22)), he2, n7, n8]
    · refine pv_aload_0 (pc := 26) dX12_undoes_26 ?_
      refine pv_bipush (pc := 27) (v := (-5)) dX12_undoes_27 (by decide) ?_
      refine pv_callV1 (pc := 29) dX12_undoes_29 mgX12_no lv_X12_115_12 (by decide) (sx_61 hT) (by omega) (c_X12_no (k := 5) hT hR (by decide) (by unfold vp_in; decide)) rfl rfl (by decide) ?_
      refine pv_iret (pc := 32) dX12_undoes_32 rfl rfl ?_
      first
        | (have f1 := h2; refine qM.ref hM k_lt5b ?_; unfold S_undoes; rw [if_pos (Or.inl f1)]; done)
        | (have f1 := h22; refine qM.scrref hM hk k_lt5b ?_; unfold S_undoes; rw [if_pos (Or.inr f1)]; done)

set_option maxRecDepth 100000 in
set_option maxHeartbeats 4000000 in
theorem c_X12_made {G : pv_G} {d : Nat} {J : pv_I} {K : pv_L} {a b i : Int64} {t : pv_T} {I : pv_I} {L : pv_L} {Rf : pv_R} (hT : sh_ok t) (hR : rf_ok Rf) (hW : WF J K) (hM : RM J K I L) (hd : 6 ≤ d) : pv_Mt G mX12_made d 0 0 [.ref 61, .long a, .long b, .long i] t I L Rf (qM (S_made J K a b i) t I L Rf) := by
  refine pv_mt mgX12_made.2.2.2.2.2 [.ref 61, .long a, .retAddr 0, .long b, .retAddr 0, .long i, .retAddr 0, .retAddr 0, .retAddr 0] rfl (Nat.le_of_ble_eq_true rfl) ?_
  obtain ⟨⟨m0, m1, m2, m3, m4, m5, m6, m7, m8⟩, mf, mst, mh, mr, mt, mc, mi⟩ := id hM
  refine pv_aload_0 (pc := 0) dX12_made_0 ?_
  refine pv_lload_1 (pc := 1) dX12_made_1 ?_
  refine pv_lload_3 (pc := 2) dX12_made_2 ?_
  refine pv_callV1 (pc := 3) dX12_made_3 mgX12_isNumber lv_X12_143_12 (by decide) (sx_61 hT) (by omega) (c_X12_isNumber hT (by omega)) rfl rfl (by decide) ?_
  refine pv_if_ne (pc := 6) (tgt := 16) dX12_made_6 (by decide) (fun h6 => ?_) (fun h6 => ?_)
  · refine pv_aload_0 (pc := 16) dX12_made_16 ?_
    refine pv_lload_1 (pc := 17) dX12_made_17 ?_
    refine pv_lload_3 (pc := 18) dX12_made_18 ?_
    refine pv_ldc2 (pc := 19) dX12_made_19 k_X12_274 ?_
    refine pv_callVq (pc := 22) dX12_made_22 mgX12_undone lv_X12_276_12 (by decide) (sx_61 hT) (by omega) (c_X12_undone hT (u_ok_of ((s_num_iff _ _).mp ((pv_b_n0 _).mp h6))) (by omega)) rfl rfl (by decide) (fun v t I L Rf hq => ?_)
    obtain ⟨rfl, rfl, rfl, hk, he⟩ := hq
    have hN : s_num a b = true := (pv_b_n0 _).mp h6
    refine pv_lstore_7 (pc := 25) dX12_made_25 (by decide) rfl ?_
    refine pv_lload_5 (pc := 27) dX12_made_27 ?_
    refine pv_lconst (pc := 29) (v := 0) dX12_made_29 (by decide) ?_
    refine pv_lcmp_lt (pc := 30) (tgt := 42) dX12_made_30 dX12_made_31 (by decide) (fun h30 => ?_) (fun h30 => ?_)
    · refine pv_aload_0 (pc := 42) dX12_made_42 ?_
      refine pv_bipush (pc := 43) (v := (-5)) dX12_made_43 (by decide) ?_
      refine pv_callV1 (pc := 45) dX12_made_45 mgX12_no lv_X12_115_12 (by decide) (sx_61 hT) (by omega) (c_X12_no (k := 5) hT hR (by decide) (by unfold vp_in; decide)) rfl rfl (by decide) ?_
      refine pv_iret (pc := 48) dX12_made_48 rfl rfl ?_
      first
        | (have f1 := h30; refine qM.scrref hM hk k_lt5b ?_; unfold S_made; rw [if_pos hN, if_pos (Or.inl f1)]; done)
        | (have f1 := h38; refine qM.scrref hM hk k_lt5b ?_; unfold S_made; rw [if_pos hN, if_pos (Or.inr f1)]; done)
    · refine pv_lload_5 (pc := 34) dX12_made_34 ?_
      refine pv_lload_7 (pc := 36) dX12_made_36 ?_
      refine pv_lcmp_lt (pc := 38) (tgt := 49) dX12_made_38 dX12_made_39 (by decide) (fun h38 => ?_) (fun h38 => ?_)
      · refine pv_aload_0 (pc := 49) dX12_made_49 ?_
        refine pv_lload_1 (pc := 50) dX12_made_50 ?_
        refine pv_lload_3 (pc := 51) dX12_made_51 ?_
        refine pv_lload_7 (pc := 52) dX12_made_52 ?_
        refine pv_lconst (pc := 54) (v := 1) dX12_made_54 (by decide) ?_
        refine pv_lsub (pc := 55) dX12_made_55 ?_
        refine pv_lload_5 (pc := 56) dX12_made_56 ?_
        refine pv_lsub (pc := 58) dX12_made_58 ?_
        refine pv_callVq (pc := 59) dX12_made_59 mgX12_undone lv_X12_276_12 (by decide) (sx_61 hT) (by omega) (c_X12_undone hT (u_ok_of ((s_num_iff _ _).mp ((pv_b_n0 _).mp h6))) (by omega)) rfl rfl (by decide) (fun v t I L Rf hq => ?_)
        obtain ⟨rfl, rfl, rfl, hk2, he2⟩ := hq
        have he3 : I 61 36 = u_i a b (u_n a b - 1 - i) := he2
        refine pv_pop2 (pc := 62) dX12_made_62 ?_
        refine pv_aload_0 (pc := 63) dX12_made_63 ?_
        refine pv_getI (pc := 64) dX12_made_64 fg_X12_263_12 rfl (by decide) (sx_61 hT) ?_
        refine pv_if_ne (pc := 67) (tgt := 74) dX12_made_67 (by decide) (fun h67 => ?_) (fun h67 => ?_)
        · refine pv_iconst (pc := 74) (v := 2) dX12_made_74 (by decide) ?_
          refine pv_iret (pc := 75) dX12_made_75 rfl rfl ?_
          refine qM.scr hM (hk.tr hk2) ?_; unfold S_made; rw [if_pos hN, if_neg (fun r => r.elim h30 (fun g => g h38))]
          first
            | (have f1 := h67; rw [he3] at f1; rw [if_pos f1]; done)
            | (have f1 := h67; rw [he3] at f1; rw [if_neg f1]; done)
        · refine pv_iconst (pc := 70) (v := 1) dX12_made_70 (by decide) ?_
          refine pv_goto (pc := 71) (tgt := 75) dX12_made_71 (by decide) ?_
          refine pv_iret (pc := 75) dX12_made_75 rfl rfl ?_
          refine qM.scr hM (hk.tr hk2) ?_; unfold S_made; rw [if_pos hN, if_neg (fun r => r.elim h30 (fun g => g h38))]
          first
            | (have f1 := h67; rw [he3] at f1; rw [if_pos f1]; done)
            | (have f1 := h67; rw [he3] at f1; rw [if_neg f1]; done)
      · refine pv_aload_0 (pc := 42) dX12_made_42 ?_
        refine pv_bipush (pc := 43) (v := (-5)) dX12_made_43 (by decide) ?_
        refine pv_callV1 (pc := 45) dX12_made_45 mgX12_no lv_X12_115_12 (by decide) (sx_61 hT) (by omega) (c_X12_no (k := 5) hT hR (by decide) (by unfold vp_in; decide)) rfl rfl (by decide) ?_
        refine pv_iret (pc := 48) dX12_made_48 rfl rfl ?_
        first
          | (have f1 := h30; refine qM.scrref hM hk k_lt5b ?_; unfold S_made; rw [if_pos hN, if_pos (Or.inl f1)]; done)
          | (have f1 := h38; refine qM.scrref hM hk k_lt5b ?_; unfold S_made; rw [if_pos hN, if_pos (Or.inr f1)]; done)
  · refine pv_aload_0 (pc := 9) dX12_made_9 ?_
    refine pv_bipush (pc := 10) (v := (-6)) dX12_made_10 (by decide) ?_
    refine pv_callV1 (pc := 12) dX12_made_12 mgX12_no lv_X12_115_12 (by decide) (sx_61 hT) (by omega) (c_X12_no (k := 6) hT hR (by decide) (by unfold vp_in; decide)) rfl rfl (by decide) ?_
    refine pv_iret (pc := 15) dX12_made_15 rfl rfl ?_
    refine qM.ref hM (by decide) ?_; unfold S_made; rw [if_neg (by rw [(pv_b_0 _).mp h6]; decide)]

/-- a step danced in truth: danced?, the world -/
def w_stp (J : pv_I) (K : pv_L) (s : Int32) : Bool × pv_I × pv_L := if s_room (s_stepP s (K 0 0) (K 0 1)) (s_stepQ s (K 0 0) (K 0 1)) = true then (true, w_dn J (h_stc s (J 4)) 1 1, w_pq K (s_stepP s (K 0 0) (K 0 1)) (s_stepQ s (K 0 0) (K 0 1))) else (false, J, K)
theorem w_stp_t {J : pv_I} {K : pv_L} {s : Int32} (h : s_room (s_stepP s (K 0 0) (K 0 1)) (s_stepQ s (K 0 0) (K 0 1)) = true) : w_stp J K s = (true, w_dn J (h_stc s (J 4)) 1 1, w_pq K (s_stepP s (K 0 0) (K 0 1)) (s_stepQ s (K 0 0) (K 0 1))) := by unfold w_stp; rw [if_pos h]
theorem w_stp_f {J : pv_I} {K : pv_L} {s : Int32} (h : s_room (s_stepP s (K 0 0) (K 0 1)) (s_stepQ s (K 0 0) (K 0 1)) = false) : w_stp J K s = (false, J, K) := by unfold w_stp; rw [if_neg (by rw [h]; decide)]
set_option maxRecDepth 100000 in
set_option maxHeartbeats 4000000 in
theorem c_X12_stepped {G : pv_G} {d : Nat} {J : pv_I} {K : pv_L} {s : Int32} {t : pv_T} {I : pv_I} {L : pv_L} {Rf : pv_R} (hT : sh_ok t) (hR : rf_ok Rf) (hM : RM J K I L) (hs : s = 0 ∨ s = 1 ∨ s = 2) (hd : 2 ≤ d) : pv_Mt G mX12_stepped d 0 0 [.ref 61, .int s] t I L Rf (qM (.int (pv_b (w_stp J K s).1), (w_stp J K s).2) t I L Rf) := by
  refine pv_mt mgX12_stepped.2.2.2.2.2 [.ref 61, .int s] rfl (Nat.le_of_ble_eq_true rfl) ?_
  refine pv_aload_0 (pc := 0) dX12_stepped_0 ?_
  refine pv_callV0 (pc := 1) dX12_stepped_1 mgX12_begins lv_X12_230_12 (by decide) (sx_61 hT) (by omega) (n_begins hT hR hM) rfl rfl (by decide) ?_
  refine pv_aload_0 (pc := 4) dX12_stepped_4 ?_
  refine pv_iload_1 (pc := 5) dX12_stepped_5 ?_
  refine pv_callV0 (pc := 6) dX12_stepped_6 mgX12_step lv_X12_286_12 (by decide) (sx_61 hT) (by omega) (n_step hT hR hs (by omega)) rfl rfl (by decide) ?_
  refine pv_aload_0 (pc := 9) dX12_stepped_9 ?_
  refine pv_callV1 (pc := 10) dX12_stepped_10 mgX12_isRoom lv_X12_236_12 (by decide) (sx_61 hT) (by omega) (c_X12_isRoom hT) rfl rfl (by decide) ?_
  refine pv_if_ne (pc := 13) (tgt := 18) dX12_stepped_13 (by decide) (fun h13 => ?_) (fun h13 => ?_)
  · refine pv_aload_0 (pc := 18) dX12_stepped_18 ?_
    refine pv_callV0 (pc := 19) dX12_stepped_19 mgX12_truly lv_X12_239_12 (by decide) (sx_61 hT) (by omega) (c_X12_truly hT hR) rfl rfl (by decide) ?_
    refine pv_aload_0 (pc := 22) dX12_stepped_22 ?_
    refine pv_dup (pc := 23) dX12_stepped_23 rfl ?_
    refine pv_getI (pc := 24) dX12_stepped_24 fg_X12_213_12 rfl (by decide) (sx_61 hT) ?_
    refine pv_iconst (pc := 27) (v := 1) dX12_stepped_27 (by decide) ?_
    refine pv_iadd (pc := 28) dX12_stepped_28 ?_
    refine pv_putI (pc := 29) dX12_stepped_29 fl_X12_213_12 (fun q => by cases q) ⟨rfl, rfl, rfl⟩ (by decide) (sx_61 hT) ?_
    refine pv_aload_0 (pc := 32) dX12_stepped_32 ?_
    refine pv_dup (pc := 33) dX12_stepped_33 rfl ?_
    refine pv_getI (pc := 34) dX12_stepped_34 fg_X12_216_12 rfl (by decide) (sx_61 hT) ?_
    refine pv_iconst (pc := 37) (v := 1) dX12_stepped_37 (by decide) ?_
    refine pv_iadd (pc := 38) dX12_stepped_38 ?_
    refine pv_putI (pc := 39) dX12_stepped_39 fl_X12_216_12 (fun q => by cases q) ⟨rfl, rfl, rfl⟩ (by decide) (sx_61 hT) ?_
    refine pv_iconst (pc := 42) (v := 1) dX12_stepped_42 (by decide) ?_
    refine pv_iret (pc := 43) dX12_stepped_43 rfl rfl ?_
    rw [w_stp_t ((pv_b_n0 _).mp h13)]
    have h1 := (hM.tr (c := h_stc s (J 4)) (p := s_stepP s (K 0 0) (K 0 1)) (q := s_stepQ s (K 0 0) (K 0 1)))
    have h2 := (h1.f1 (I 61 1 + 1)).f2 (I 61 2 + 1)
    refine ⟨rfl, rfl, rfl, ?_, ((((kS.rf.at _).pq _ _).kX.st _).PQ _ _ |>.uI 61 1 _ (by decide)).uI 61 2 _ (by decide)⟩
    unfold w_dn
    rw [← hM.1.2.1, ← hM.1.2.2.1]
    exact h2
  · refine pv_iconst (pc := 16) (v := 0) dX12_stepped_16 (by decide) ?_
    refine pv_iret (pc := 17) dX12_stepped_17 rfl rfl ?_
    rw [w_stp_f ((pv_b_0 _).mp h13)]; exact qM.scr hM ((kS.rf.at _).pq _ _) rfl

def w_frees : Nat → Nat → pv_I → pv_L → SR
  | 0, k, J, K => (.int (Int32.ofNat k), J, K)
  | m + 1, k, J, K => if K 0 0 = 0 then (.int (Int32.ofNat k), J, K) else w_frees m (k + 1) (w_stp J K (if K 0 0 < 0 then 0 else 2)).2.1 (w_stp J K (if K 0 0 < 0 then 0 else 2)).2.2
def S_frees (J : pv_I) (K : pv_L) (n : Int32) : SR := if n < 0 ∨ 40 < n then S_ref J K 6 (.int (-6)) else w_frees n.toNatClampNeg 0 J K
set_option maxRecDepth 100000 in
set_option maxHeartbeats 4000000 in
theorem l_frees {G : pv_G} {d : Nat} {n : Int32} {t : pv_T} {I0 : pv_I} {L0 : pv_L} {Rf : pv_R} {r : SR} (hT : sh_ok t) (hR : rf_ok Rf) (h0 : 0 ≤ n.toInt) (hn : n.toInt ≤ 40) (hd : 6 ≤ d) : ∀ (m k : Nat) (J : pv_I) (K : pv_L) (I : pv_I) (L : pv_L), RM J K I L → kX I0 L0 I L → k + m = n.toNatClampNeg → w_frees m k J K = r →
    pv_V G mX12_frees d 0 0 (qM r t I0 L0 Rf) 0 0 19 [.ref 61, .int n, .int (Int32.ofNat k)] [] t I L Rf := by
  intro m
  induction m with
  | zero =>
    intro k J K I L hM hX hk hr
    have hnl := i_lit n
    have g7 : L 61 5 = K 0 0 := hM.1.2.2.2.2.2.2.2.1
    refine pv_iload_2 (pc := 19) dX12_frees_19 ?_
    refine pv_iload_1 (pc := 20) dX12_frees_20 ?_
    refine pv_icmp_ge (pc := 21) (tgt := 58) dX12_frees_21 (by decide) (fun h21 => ?_) (fun h21 => absurd h21 (by rw [i_lt, i_of (by omega)]; omega))
    refine pv_iload_2 (pc := 58) dX12_frees_58 ?_
    refine pv_iret (pc := 59) dX12_frees_59 rfl rfl ?_
    exact ⟨congrArg (fun z => some z.1) hr, rfl, rfl, by rw [← hr]; exact hM, hX⟩
  | succ m ih =>
    intro k J K I L hM hX hk hr
    have hnl := i_lit n
    have g7 : L 61 5 = K 0 0 := hM.1.2.2.2.2.2.2.2.1
    refine pv_iload_2 (pc := 19) dX12_frees_19 ?_
    refine pv_iload_1 (pc := 20) dX12_frees_20 ?_
    refine pv_icmp_ge (pc := 21) (tgt := 58) dX12_frees_21 (by decide) (fun h21 => absurd h21 (by rw [i_lt, i_of (by omega)]; omega)) (fun h21 => ?_)
    refine pv_aload_0 (pc := 24) dX12_frees_24 ?_
    refine pv_getL (pc := 25) dX12_frees_25 fg_X12_147_12 (by decide) (sx_61 hT) ?_
    refine pv_lconst (pc := 28) (v := 0) dX12_frees_28 (by decide) ?_
    refine pv_lcmp_eq (pc := 29) (tgt := 58) dX12_frees_29 dX12_frees_30 (by decide) (fun h29 => ?_) (fun h29 => ?_)
    · refine pv_iload_2 (pc := 58) dX12_frees_58 ?_
      refine pv_iret (pc := 59) dX12_frees_59 rfl rfl ?_
      rw [w_frees, if_pos (by rw [← g7]; exact h29)] at hr
      exact ⟨congrArg (fun z => some z.1) hr, rfl, rfl, by rw [← hr]; exact hM, hX⟩
    · refine pv_aload_0 (pc := 33) dX12_frees_33 ?_
      refine pv_aload_0 (pc := 34) dX12_frees_34 ?_
      refine pv_getL (pc := 35) dX12_frees_35 fg_X12_147_12 (by decide) (sx_61 hT) ?_
      refine pv_lconst (pc := 38) (v := 0) dX12_frees_38 (by decide) ?_
      refine pv_lcmp_ge (pc := 39) (tgt := 47) dX12_frees_39 dX12_frees_40 (by decide) (fun h39 => ?_) (fun h39 => ?_)
      · refine pv_iconst (pc := 47) (v := 2) dX12_frees_47 (by decide) ?_
        refine pv_callVq (pc := 48) dX12_frees_48 mgX12_stepped lv_X12_386_12 (by decide) (sx_61 hT) (by omega) (c_X12_stepped hT hR hM (by decide) (by omega)) rfl rfl (by decide) (fun v t I L Rf hq => ?_)
        obtain ⟨rfl, rfl, rfl, q4, q5⟩ := hq
        refine pv_pop (pc := 51) dX12_frees_51 rfl ?_
        refine pv_iinc_2 (pc := 52) (v := _ + 1) dX12_frees_52 rfl (by decide) rfl ?_
        refine pv_goto (pc := 55) (tgt := 19) dX12_frees_55 (by decide) ?_
        rw [i_inc]
        refine ih (k + 1) _ _ _ _ q4 (hX.tr q5) (by omega) ?_
        rw [← hr, w_frees, if_neg (by rw [← g7]; exact h29)]
        first
          | (have f1 := h39; rw [g7] at f1; rw [if_pos f1]; done)
          | (have f1 := h39; rw [g7] at f1; rw [if_neg f1]; done)
      · refine pv_iconst (pc := 43) (v := 0) dX12_frees_43 (by decide) ?_
        refine pv_goto (pc := 44) (tgt := 48) dX12_frees_44 (by decide) ?_
        refine pv_callVq (pc := 48) dX12_frees_48 mgX12_stepped lv_X12_386_12 (by decide) (sx_61 hT) (by omega) (c_X12_stepped hT hR hM (by decide) (by omega)) rfl rfl (by decide) (fun v t I L Rf hq => ?_)
        obtain ⟨rfl, rfl, rfl, q4, q5⟩ := hq
        refine pv_pop (pc := 51) dX12_frees_51 rfl ?_
        refine pv_iinc_2 (pc := 52) (v := _ + 1) dX12_frees_52 rfl (by decide) rfl ?_
        refine pv_goto (pc := 55) (tgt := 19) dX12_frees_55 (by decide) ?_
        rw [i_inc]
        refine ih (k + 1) _ _ _ _ q4 (hX.tr q5) (by omega) ?_
        rw [← hr, w_frees, if_neg (by rw [← g7]; exact h29)]
        first
          | (have f1 := h39; rw [g7] at f1; rw [if_pos f1]; done)
          | (have f1 := h39; rw [g7] at f1; rw [if_neg f1]; done)

set_option maxRecDepth 100000 in
set_option maxHeartbeats 4000000 in
theorem c_X12_frees {G : pv_G} {d : Nat} {J : pv_I} {K : pv_L} {n : Int32} {t : pv_T} {I : pv_I} {L : pv_L} {Rf : pv_R} (hT : sh_ok t) (hR : rf_ok Rf) (hW : WF J K) (hM : RM J K I L) (hd : 6 ≤ d) : pv_Mt G mX12_frees d 0 0 [.ref 61, .int n] t I L Rf (qM (S_frees J K n) t I L Rf) := by
  refine pv_mt mgX12_frees.2.2.2.2.2 [.ref 61, .int n, .retAddr 0] rfl (Nat.le_of_ble_eq_true rfl) ?_
  obtain ⟨⟨m0, m1, m2, m3, m4, m5, m6, m7, m8⟩, mf, mst, mh, mr, mt, mc, mi⟩ := id hM
  refine pv_iload_1 (pc := 0) dX12_frees_0 ?_
  refine pv_if_lt (pc := 1) (tgt := 10) dX12_frees_1 (by decide) (fun h1 => ?_) (fun h1 => ?_)
  · refine pv_aload_0 (pc := 10) dX12_frees_10 ?_
    refine pv_bipush (pc := 11) (v := (-6)) dX12_frees_11 (by decide) ?_
    refine pv_callV1 (pc := 13) dX12_frees_13 mgX12_no lv_X12_115_12 (by decide) (sx_61 hT) (by omega) (c_X12_no (k := 6) hT hR (by decide) (by unfold vp_in; decide)) rfl rfl (by decide) ?_
    refine pv_iret (pc := 16) dX12_frees_16 rfl rfl ?_
    first
      | (have f1 := h1; refine qM.ref hM (by decide) ?_; unfold S_frees; rw [if_pos (Or.inl f1)]; done)
      | (have f1 := h7; refine qM.ref hM (by decide) ?_; unfold S_frees; rw [if_pos (Or.inr f1)]; done)
  · refine pv_iload_1 (pc := 4) dX12_frees_4 ?_
    refine pv_bipush (pc := 5) (v := 40) dX12_frees_5 (by decide) ?_
    refine pv_icmp_le (pc := 7) (tgt := 17) dX12_frees_7 (by decide) (fun h7 => ?_) (fun h7 => ?_)
    · refine pv_iconst (pc := 17) (v := 0) dX12_frees_17 (by decide) ?_
      refine pv_istore_2 (pc := 18) dX12_frees_18 (by decide) rfl ?_
      have hnl := i_lit n
      have q1 := h1
      have q7 := h7
      simp only [i_lt, (show (0 : Int32).toInt = 0 from by decide), (show (40 : Int32).toInt = 40 from by decide)] at q1 q7
      exact l_frees hT hR (by omega) (by omega) hd n.toNatClampNeg 0 J K I L hM kX.rf (by omega) (by unfold S_frees; rw [if_neg (fun r => r.elim h1 h7)])
    · refine pv_aload_0 (pc := 10) dX12_frees_10 ?_
      refine pv_bipush (pc := 11) (v := (-6)) dX12_frees_11 (by decide) ?_
      refine pv_callV1 (pc := 13) dX12_frees_13 mgX12_no lv_X12_115_12 (by decide) (sx_61 hT) (by omega) (c_X12_no (k := 6) hT hR (by decide) (by unfold vp_in; decide)) rfl rfl (by decide) ?_
      refine pv_iret (pc := 16) dX12_frees_16 rfl rfl ?_
      first
        | (have f1 := h1; refine qM.ref hM (by decide) ?_; unfold S_frees; rw [if_pos (Or.inl f1)]; done)
        | (have f1 := h7; refine qM.ref hM (by decide) ?_; unfold S_frees; rw [if_pos (Or.inr f1)]; done)

def w_sd (v : Int32) : Int32 := v * 1103515245 + 12345
def w_dr (v : Int32) : Int32 := (v.toUInt32 >>> 16).toInt32 % 3
theorem w_dr_c (v : Int32) : w_dr v = 0 ∨ w_dr v = 1 ∨ w_dr v = 2 := by
  have h1 : (v.toUInt32 >>> 16).toNat < 65536 := by
    rw [UInt32.toNat_shiftRight]
    have := v.toUInt32.toNat_lt
    simp only [show (16 : UInt32).toNat % 32 = 16 from rfl, Nat.shiftRight_eq_div_pow]
    omega
  have h2 : (v.toUInt32 >>> 16).toInt32.toInt = (v.toUInt32 >>> 16).toNat := by
    show (v.toUInt32 >>> 16).toBitVec.toInt = _
    rw [BitVec.toInt_eq_toNat_of_lt (by have : (v.toUInt32 >>> 16).toBitVec.toNat = (v.toUInt32 >>> 16).toNat := rfl; omega)]
    rfl
  have h3 : (w_dr v).toInt = ((v.toUInt32 >>> 16).toNat : Int) % 3 := by
    unfold w_dr
    rw [Jvm.Kit.i32_rem_nonneg (by omega), h2]; rfl
  have h4 : (w_dr v).toInt = 0 ∨ (w_dr v).toInt = 1 ∨ (w_dr v).toInt = 2 := by omega
  rcases h4 with h | h | h
  · exact Or.inl (by rw [← Int32.toInt_inj, h]; decide)
  · exact Or.inr (Or.inl (by rw [← Int32.toInt_inj, h]; decide))
  · exact Or.inr (Or.inr (by rw [← Int32.toInt_inj, h]; decide))
def w_draws : Nat → Nat → pv_I → pv_L → SR
  | 0, k, J, K => (.int (Int32.ofNat k), J, K)
  | m + 1, k, J, K => if (w_stp (pv_u J 0 3 (w_sd (J 0 3))) K (w_dr (w_sd (J 0 3)))).1 = true then w_draws m (k + 1) (w_stp (pv_u J 0 3 (w_sd (J 0 3))) K (w_dr (w_sd (J 0 3)))).2.1 (w_stp (pv_u J 0 3 (w_sd (J 0 3))) K (w_dr (w_sd (J 0 3)))).2.2 else (.int (Int32.ofNat k), (w_stp (pv_u J 0 3 (w_sd (J 0 3))) K (w_dr (w_sd (J 0 3)))).2)
def S_draws (J : pv_I) (K : pv_L) (n : Int32) : SR := if n < 1 ∨ 40 < n then S_ref J K 6 (.int (-6)) else w_draws n.toNatClampNeg 0 J K
set_option maxRecDepth 100000 in
set_option maxHeartbeats 4000000 in
theorem c_X12_draw {G : pv_G} {d : Nat} {t : pv_T} {I : pv_I} {L : pv_L} {Rf : pv_R} (hT : sh_ok t) : pv_Mt G mX12_draw d 0 0 [.ref 61, .int 3] t I L Rf (pv_is (some (.int (w_dr (w_sd (I 61 3))))) t (pv_u I 61 3 (w_sd (I 61 3))) L Rf) := by
  refine pv_mt mgX12_draw.2.2.2.2.2 [.ref 61, .int 3] rfl (Nat.le_of_ble_eq_true rfl) ?_
  refine pv_aload_0 (pc := 0) dX12_draw_0 ?_
  refine pv_aload_0 (pc := 1) dX12_draw_1 ?_
  refine pv_getI (pc := 2) dX12_draw_2 fg_X12_7_12 rfl (by decide) (sx_61 hT) ?_
  refine pv_ldcw (pc := 5) dX12_draw_5 k_X12_389 ?_
  refine pv_imul (pc := 8) dX12_draw_8 ?_
  refine pv_sipush (pc := 9) (v := 12345) dX12_draw_9 (by decide) ?_
  refine pv_iadd (pc := 12) dX12_draw_12 ?_
  refine pv_putI (pc := 13) dX12_draw_13 fl_X12_7_12 (fun q => by cases q) ⟨rfl, rfl, rfl⟩ (by decide) (sx_61 hT) ?_
  refine pv_aload_0 (pc := 16) dX12_draw_16 ?_
  refine pv_getI (pc := 17) dX12_draw_17 fg_X12_7_12 rfl (by decide) (sx_61 hT) ?_
  refine pv_bipush (pc := 20) (v := 16) dX12_draw_20 (by decide) ?_
  refine pv_iushr (pc := 22) dX12_draw_22 rfl ?_
  refine pv_iload_1 (pc := 23) dX12_draw_23 ?_
  refine pv_irem (pc := 24) dX12_draw_24 (by decide) ?_
  refine pv_iret (pc := 25) dX12_draw_25 rfl rfl ?_
  exact ⟨rfl, rfl, rfl, rfl, rfl⟩

set_option maxRecDepth 100000 in
set_option maxHeartbeats 4000000 in
theorem l_draws {G : pv_G} {d : Nat} {n : Int32} {t : pv_T} {I0 : pv_I} {L0 : pv_L} {Rf : pv_R} {r : SR} (hT : sh_ok t) (hR : rf_ok Rf) (h0 : 0 ≤ n.toInt) (hn : n.toInt ≤ 40) (hd : 6 ≤ d) : ∀ (m k : Nat) (J : pv_I) (K : pv_L) (I : pv_I) (L : pv_L), RM J K I L → kX I0 L0 I L → k + m = n.toNatClampNeg → w_draws m k J K = r →
    pv_V G mX12_draws d 0 0 (qM r t I0 L0 Rf) 0 0 20 [.ref 61, .int n, .int (Int32.ofNat k)] [] t I L Rf := by
  intro m
  induction m with
  | zero =>
    intro k J K I L hM hX hk hr
    have hnl := i_lit n
    have g7 : I 61 3 = J 0 3 := hM.1.2.2.2.1
    refine pv_iload_2 (pc := 20) dX12_draws_20 ?_
    refine pv_iload_1 (pc := 21) dX12_draws_21 ?_
    refine pv_icmp_ge (pc := 22) (tgt := 43) dX12_draws_22 (by decide) (fun h22 => ?_) (fun h22 => absurd h22 (by rw [i_lt, i_of (by omega)]; omega))
    refine pv_iload_2 (pc := 43) dX12_draws_43 ?_
    refine pv_iret (pc := 44) dX12_draws_44 rfl rfl ?_
    exact ⟨congrArg (fun z => some z.1) hr, rfl, rfl, by rw [← hr]; exact hM, hX⟩
  | succ m ih =>
    intro k J K I L hM hX hk hr
    have hnl := i_lit n
    have g7 : I 61 3 = J 0 3 := hM.1.2.2.2.1
    refine pv_iload_2 (pc := 20) dX12_draws_20 ?_
    refine pv_iload_1 (pc := 21) dX12_draws_21 ?_
    refine pv_icmp_ge (pc := 22) (tgt := 43) dX12_draws_22 (by decide) (fun h22 => absurd h22 (by rw [i_lt, i_of (by omega)]; omega)) (fun h22 => ?_)
    refine pv_aload_0 (pc := 25) dX12_draws_25 ?_
    refine pv_aload_0 (pc := 26) dX12_draws_26 ?_
    refine pv_iconst (pc := 27) (v := 3) dX12_draws_27 (by decide) ?_
    refine pv_callV1 (pc := 28) dX12_draws_28 mgX12_draw lv_X12_390_12 (by decide) (sx_61 hT) (by omega) (c_X12_draw hT) rfl rfl (Nat.le_of_ble_eq_true rfl) ?_
    refine pv_callVq (pc := 31) dX12_draws_31 mgX12_stepped lv_X12_386_12 (by decide) (sx_61 hT) (by omega) (c_X12_stepped hT hR (hM.f3 (w_sd (I 61 3))) (w_dr_c _) (by omega)) rfl rfl (by decide) (fun v t I L Rf hq => ?_)
    obtain ⟨rfl, rfl, rfl, q4, q5⟩ := hq
    have q6 := (hX.uI 61 3 _ (by decide)).tr q5
    rw [g7] at q4
    rw [g7]
    obtain ⟨W, hW0⟩ : ∃ W, w_stp (pv_u J 0 3 (w_sd (J 0 3))) K (w_dr (w_sd (J 0 3))) = W := ⟨_, rfl⟩
    rw [hW0] at q4
    rw [hW0]
    refine pv_if_eq (pc := 34) (tgt := 43) dX12_draws_34 (by decide) (fun h34 => ?_) (fun h34 => ?_)
    · refine pv_iload_2 (pc := 43) dX12_draws_43 ?_
      refine pv_iret (pc := 44) dX12_draws_44 rfl rfl ?_
      have f1 := (pv_b_0 _).mp h34
      rw [w_draws, hW0, if_neg (by rw [f1]; decide)] at hr
      exact ⟨congrArg (fun z => some z.1) hr, rfl, rfl, by rw [← hr]; exact q4, q6⟩
    · refine pv_iinc_2 (pc := 37) (v := _ + 1) dX12_draws_37 rfl (by decide) rfl ?_
      refine pv_goto (pc := 40) (tgt := 20) dX12_draws_40 (by decide) ?_
      rw [i_inc]
      have f1 := (pv_b_n0 _).mp h34
      refine ih (k + 1) _ _ _ _ q4 q6 (by omega) ?_
      rw [← hr, w_draws, hW0, if_pos f1]

set_option maxRecDepth 100000 in
set_option maxHeartbeats 4000000 in
theorem c_X12_draws {G : pv_G} {d : Nat} {J : pv_I} {K : pv_L} {n : Int32} {t : pv_T} {I : pv_I} {L : pv_L} {Rf : pv_R} (hT : sh_ok t) (hR : rf_ok Rf) (hW : WF J K) (hM : RM J K I L) (hd : 6 ≤ d) : pv_Mt G mX12_draws d 0 0 [.ref 61, .int n] t I L Rf (qM (S_draws J K n) t I L Rf) := by
  refine pv_mt mgX12_draws.2.2.2.2.2 [.ref 61, .int n, .retAddr 0] rfl (Nat.le_of_ble_eq_true rfl) ?_
  obtain ⟨⟨m0, m1, m2, m3, m4, m5, m6, m7, m8⟩, mf, mst, mh, mr, mt, mc, mi⟩ := id hM
  refine pv_iload_1 (pc := 0) dX12_draws_0 ?_
  refine pv_iconst (pc := 1) (v := 1) dX12_draws_1 (by decide) ?_
  refine pv_icmp_lt (pc := 2) (tgt := 11) dX12_draws_2 (by decide) (fun h2 => ?_) (fun h2 => ?_)
  · refine pv_aload_0 (pc := 11) dX12_draws_11 ?_
    refine pv_bipush (pc := 12) (v := (-6)) dX12_draws_12 (by decide) ?_
    refine pv_callV1 (pc := 14) dX12_draws_14 mgX12_no lv_X12_115_12 (by decide) (sx_61 hT) (by omega) (c_X12_no (k := 6) hT hR (by decide) (by unfold vp_in; decide)) rfl rfl (by decide) ?_
    refine pv_iret (pc := 17) dX12_draws_17 rfl rfl ?_
    first
      | (have f1 := h2; refine qM.ref hM (by decide) ?_; unfold S_draws; rw [if_pos (Or.inl f1)]; done)
      | (have f1 := h8; refine qM.ref hM (by decide) ?_; unfold S_draws; rw [if_pos (Or.inr f1)]; done)
  · refine pv_iload_1 (pc := 5) dX12_draws_5 ?_
    refine pv_bipush (pc := 6) (v := 40) dX12_draws_6 (by decide) ?_
    refine pv_icmp_le (pc := 8) (tgt := 18) dX12_draws_8 (by decide) (fun h8 => ?_) (fun h8 => ?_)
    · refine pv_iconst (pc := 18) (v := 0) dX12_draws_18 (by decide) ?_
      refine pv_istore_2 (pc := 19) dX12_draws_19 (by decide) rfl ?_
      have hnl := i_lit n
      have q1 := h2
      have q7 := h8
      simp only [i_lt, (show (1 : Int32).toInt = 1 from by decide), (show (40 : Int32).toInt = 40 from by decide)] at q1 q7
      exact l_draws hT hR (by omega) (by omega) hd n.toNatClampNeg 0 J K I L hM kX.rf (by omega) (by unfold S_draws; rw [if_neg (fun r => r.elim h2 h8)])
    · refine pv_aload_0 (pc := 11) dX12_draws_11 ?_
      refine pv_bipush (pc := 12) (v := (-6)) dX12_draws_12 (by decide) ?_
      refine pv_callV1 (pc := 14) dX12_draws_14 mgX12_no lv_X12_115_12 (by decide) (sx_61 hT) (by omega) (c_X12_no (k := 6) hT hR (by decide) (by unfold vp_in; decide)) rfl rfl (by decide) ?_
      refine pv_iret (pc := 17) dX12_draws_17 rfl rfl ?_
      first
        | (have f1 := h2; refine qM.ref hM (by decide) ?_; unfold S_draws; rw [if_pos (Or.inl f1)]; done)
        | (have f1 := h8; refine qM.ref hM (by decide) ?_; unfold S_draws; rw [if_pos (Or.inr f1)]; done)

