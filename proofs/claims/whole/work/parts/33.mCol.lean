/-! coloured -/
def S_coloured (J : pv_I) (K : pv_L) (n : Int32) : SR := if n < 2 ∨ 99 < n then S_ref J K 6 (.long (-6 : Int32).toInt64) else (.long (n.toInt64 * s_gcd (K 0 0) n.toInt64), J, K)

set_option maxRecDepth 100000 in
set_option maxHeartbeats 4000000 in
theorem c_X12_coloured {G : pv_G} {d : Nat} {J : pv_I} {K : pv_L} {n : Int32} {t : pv_T} {I : pv_I} {L : pv_L} {Rf : pv_R} (hT : sh_ok t) (hR : rf_ok Rf) (hW : WF J K) (hM : RM J K I L) (hd : 6 ≤ d) : pv_Mt G mX12_coloured d 0 0 [.ref 61, .int n] t I L Rf (qM (S_coloured J K n) t I L Rf) := by
  refine pv_mt mgX12_coloured.2.2.2.2.2 [.ref 61, .int n] rfl (Nat.le_of_ble_eq_true rfl) ?_
  obtain ⟨⟨m0, m1, m2, m3, m4, m5, m6, m7, m8⟩, mf, mst, mh, mr, mt, mc, mi⟩ := id hM
  refine pv_iload_1 (pc := 0) dX12_coloured_0 ?_
  refine pv_iconst (pc := 1) (v := 2) dX12_coloured_1 (by decide) ?_
  refine pv_icmp_lt (pc := 2) (tgt := 11) dX12_coloured_2 (by decide) (fun h2 => ?_) (fun h2 => ?_)
  · refine pv_aload_0 (pc := 11) dX12_coloured_11 ?_
    refine pv_bipush (pc := 12) (v := (-6)) dX12_coloured_12 (by decide) ?_
    refine pv_callV1 (pc := 14) dX12_coloured_14 mgX12_no lv_X12_115_12 (by decide) (sx_61 hT) (by omega) (c_X12_no (k := 6) hT hR (by decide) (by unfold vp_in; decide)) rfl rfl (by decide) ?_
    refine pv_i2l (pc := 17) dX12_coloured_17 ?_
    refine pv_lret (pc := 18) dX12_coloured_18 rfl ?_
    first
      | (have f1 := h8; refine qM.ref hM (k_lt6 : 6 < 8) ?_; unfold S_coloured; rw [if_pos (Or.inr f1)]; done)
      | (have f1 := h2; refine qM.ref hM (k_lt6 : 6 < 8) ?_; unfold S_coloured; rw [if_pos (Or.inl f1)]; done)
  · refine pv_iload_1 (pc := 5) dX12_coloured_5 ?_
    refine pv_bipush (pc := 6) (v := 99) dX12_coloured_6 (by decide) ?_
    refine pv_icmp_le (pc := 8) (tgt := 19) dX12_coloured_8 (by decide) (fun h8 => ?_) (fun h8 => ?_)
    · refine pv_iload_1 (pc := 19) dX12_coloured_19 ?_
      refine pv_i2l (pc := 20) dX12_coloured_20 ?_
      refine pv_aload_0 (pc := 21) dX12_coloured_21 ?_
      refine pv_aload_0 (pc := 22) dX12_coloured_22 ?_
      refine pv_getL (pc := 23) dX12_coloured_23 fg_X12_147_12 (by decide) (sx_61 hT) ?_
      refine pv_iload_1 (pc := 26) dX12_coloured_26 ?_
      refine pv_i2l (pc := 27) dX12_coloured_27 ?_
      refine pv_callV1 (pc := 28) dX12_coloured_28 mgX12_divides lv_X12_139_12 (by decide) (sx_61 hT) (by omega) (c_X12_divides (by rw [m7]; have := hW.2.2.1; unfold s_isN at this; omega) (by rw [Int32.toInt_toInt64]; have := Int32.le_toInt n; omega)) rfl rfl (Nat.le_of_ble_eq_true rfl) ?_
      refine pv_lmul (pc := 31) dX12_coloured_31 ?_
      refine pv_lret (pc := 32) dX12_coloured_32 rfl ?_
      refine qM.same hM ?_; unfold S_coloured; rw [if_neg (fun r => r.elim h2 h8), m7]
    · refine pv_aload_0 (pc := 11) dX12_coloured_11 ?_
      refine pv_bipush (pc := 12) (v := (-6)) dX12_coloured_12 (by decide) ?_
      refine pv_callV1 (pc := 14) dX12_coloured_14 mgX12_no lv_X12_115_12 (by decide) (sx_61 hT) (by omega) (c_X12_no (k := 6) hT hR (by decide) (by unfold vp_in; decide)) rfl rfl (by decide) ?_
      refine pv_i2l (pc := 17) dX12_coloured_17 ?_
      refine pv_lret (pc := 18) dX12_coloured_18 rfl ?_
      first
        | (have f1 := h8; refine qM.ref hM (k_lt6 : 6 < 8) ?_; unfold S_coloured; rw [if_pos (Or.inr f1)]; done)
        | (have f1 := h2; refine qM.ref hM (k_lt6 : 6 < 8) ?_; unfold S_coloured; rw [if_pos (Or.inl f1)]; done)

