/-! dances, same -/
theorem RM.ld {J : pv_I} {K : pv_L} {I : pv_I} {L : pv_L} {r : LD} (h : RM J K I L) : RM (w_st J r.2.2.2.2.1) (w_pq K r.2.2.1 r.2.2.2.1) (m_st (m_ld I r) (m_ld I r 73)) (m_PQ (l_ld L r) r.2.2.1 r.2.2.2.1) :=
  (h.scr (m_dn_k I L r.2.1 r.2.2.2.2.2)).tr
def S_same (J : pv_I) (K : pv_L) (a b n : Int32) (o : Bool) : SR := if s_sh a = true ∧ s_sh b = true then (if w_sh J a = 2 ∨ w_sh J b = 2 then S_ref J K 2 (.int (-2)) else if w_sh J a = 0 ∨ w_sh J b = 0 then S_ref J K 3 (.int (-3)) else if n < 0 then S_ref J K 4 (.int (-4)) else if J 8 a.toNatClampNeg < n ∨ J 8 b.toNatClampNeg < n then S_ref J K 5 (.int (-5)) else
  if (w_D J K a n).1 = true ∧ (w_D J K b n).1 = true then (.int (pv_b (decide ((w_D J K a n).2.2.1 = (w_D J K b n).2.2.1) && decide ((w_D J K a n).2.2.2.1 = (w_D J K b n).2.2.2.1) && (!o || (decide ((w_D J K a n).2.2.2.2.1 0 = (w_D J K b n).2.2.2.2.1 0) && decide ((w_D J K a n).2.2.2.2.1 1 = (w_D J K b n).2.2.2.2.1 1) && decide ((w_D J K a n).2.2.2.2.1 2 = (w_D J K b n).2.2.2.2.1 2) && decide ((w_D J K a n).2.2.2.2.1 3 = (w_D J K b n).2.2.2.2.1 3))))), J, K)
  else S_ref J K 6 (.int (-6))) else S_ref J K 1 (.int (-1))

set_option maxRecDepth 100000 in
set_option maxHeartbeats 4000000 in
theorem c_X12_dances {G : pv_G} {d : Nat} {J : pv_I} {K : pv_L} {s n : Int32} {t : pv_T} {I : pv_I} {L : pv_L} {Rf : pv_R} (hT : sh_ok t) (hR : rf_ok Rf) (hW : WF J K) (hM : RM J K I L) (hd : 6 ≤ d) : pv_Mt G mX12_dances d 0 0 [.ref 61, .int s, .int n] t I L Rf (qM (S_dances J K s n) t I L Rf) := by
  refine pv_mt mgX12_dances.2.2.2.2.2 [.ref 61, .int s, .int n, .retAddr 0] rfl (Nat.le_of_ble_eq_true rfl) ?_
  obtain ⟨⟨m0, m1, m2, m3, m4, m5, m6, m7, m8⟩, mf, mst, mh, mr, mt, mc, mi⟩ := id hM
  refine pv_aload_0 (pc := 0) dX12_dances_0 ?_
  refine pv_iload_1 (pc := 1) dX12_dances_1 ?_
  refine pv_iload_2 (pc := 2) dX12_dances_2 ?_
  refine pv_callV1 (pc := 3) dX12_dances_3 mgX12_bars lv_X12_254_12 (by decide) (sx_61 hT) (by omega) (c_X12_bars hT hR (by omega)) rfl rfl (by decide) ?_
  rw [hM.bars]
  refine pv_istore_3 (pc := 6) dX12_dances_6 (by decide) rfl ?_
  refine pv_iload_3 (pc := 7) dX12_dances_7 ?_
  refine pv_if_ne (pc := 8) (tgt := 23) dX12_dances_8 (by decide) (fun h8 => ?_) (fun h8 => ?_)
  · refine pv_iload_3 (pc := 23) dX12_dances_23 ?_
    refine pv_if_eq (pc := 24) (tgt := 33) dX12_dances_24 (by decide) (fun h24 => absurd h24 h8) (fun h24 => ?_)
    refine pv_aload_0 (pc := 27) dX12_dances_27 ?_
    refine pv_iload_3 (pc := 28) dX12_dances_28 ?_
    refine pv_callV1 (pc := 29) dX12_dances_29 mgX12_no lv_X12_115_12 (by decide) (sx_61 hT) (by omega) (c_X12_no (k := (-(w_bars J s n)).toNatClampNeg) hT hR rfl (w_bars_in J s n)) rfl rfl (by decide) ?_
    refine pv_iret (pc := 32) dX12_dances_32 rfl rfl ?_
    first
      | (have h9 := h17
         refine qM.scrref hM (m_ld_k I L (w_D J K s n)) (k_lt6 : 6 < 8) ?_; unfold S_dances; rw [if_pos h8, if_neg (by rw [(pv_b_0 _).mp h17]; decide)]; done)
      | (refine qM.ref hM (w_bars_n s n) ?_; unfold S_dances; rw [if_neg h8]; done)
  · have hb := w_bars_0 hW h8
    rw [h8]
    refine pv_aload_0 (pc := 11) dX12_dances_11 ?_
    refine pv_iload_1 (pc := 12) dX12_dances_12 ?_
    refine pv_iload_2 (pc := 13) dX12_dances_13 ?_
    refine pv_callV1 (pc := 14) dX12_dances_14 mgX12_danced lv_X12_257_12 (by decide) (sx_61 hT) (by omega) (c_X12_danced hT hR hW hM hb.1 hb.2.1 hb.2.2 (by omega)) rfl rfl (by decide) ?_
    rw [w_led_D]
    refine pv_if_ne (pc := 17) (tgt := 23) dX12_dances_17 (by decide) (fun h17 => ?_) (fun h17 => ?_)
    · refine pv_iload_3 (pc := 23) dX12_dances_23 ?_
      refine pv_if_eq (pc := 24) (tgt := 33) dX12_dances_24 (by decide) (fun _ => ?_) (fun q => absurd q (by decide))
      refine pv_aload_0 (pc := 33) dX12_dances_33 ?_
      refine pv_callV0 (pc := 34) dX12_dances_34 mgX12_truly lv_X12_239_12 (by decide) (sx_61 hT) (by omega) (c_X12_truly hT hR) rfl rfl (by decide) ?_
      refine pv_aload_0 (pc := 37) dX12_dances_37 ?_
      refine pv_dup (pc := 38) dX12_dances_38 rfl ?_
      refine pv_getI (pc := 39) dX12_dances_39 fg_X12_213_12 rfl (by decide) (sx_61 hT) ?_
      refine pv_iload_2 (pc := 42) dX12_dances_42 ?_
      refine pv_iadd (pc := 43) dX12_dances_43 ?_
      refine pv_putI (pc := 44) dX12_dances_44 fl_X12_213_12 (fun q => by cases q) ⟨rfl, rfl, rfl⟩ (by decide) (sx_61 hT) ?_
      refine pv_aload_0 (pc := 47) dX12_dances_47 ?_
      refine pv_dup (pc := 48) dX12_dances_48 rfl ?_
      refine pv_getI (pc := 49) dX12_dances_49 fg_X12_216_12 rfl (by decide) (sx_61 hT) ?_
      refine pv_aload_0 (pc := 52) dX12_dances_52 ?_
      refine pv_getI (pc := 53) dX12_dances_53 fg_X12_248_12 rfl (by decide) (sx_61 hT) ?_
      refine pv_iadd (pc := 56) dX12_dances_56 ?_
      refine pv_putI (pc := 57) dX12_dances_57 fl_X12_216_12 (fun q => by cases q) ⟨rfl, rfl, rfl⟩ (by decide) (sx_61 hT) ?_
      refine pv_aload_0 (pc := 60) dX12_dances_60 ?_
      refine pv_getI (pc := 61) dX12_dances_61 fg_X12_213_12 rfl (by decide) (sx_61 hT) ?_
      refine pv_iret (pc := 64) dX12_dances_64 rfl rfl ?_
      have e := (pv_b_n0 _).mp h17
      have h1 := (hM.ld (r := w_D J K s n))
      have h2 := (h1.f1 (I 61 1 + n)).f2 (I 61 2 + (w_D J K s n).2.2.2.2.2)
      have q : S_dances J K s n = (.int (J 0 1 + n), w_dn J (w_D J K s n).2.2.2.2.1 n (w_D J K s n).2.2.2.2.2, w_pq K (w_D J K s n).2.2.1 (w_D J K s n).2.2.2.1) := by unfold S_dances; rw [if_pos h8, if_pos e]
      rw [q]
      refine ⟨congrArg (fun z => some (Value.int z)) (congrArg (fun z => z + n) m1), rfl, rfl, ?_, ((((m_ld_k I L (w_D J K s n)).kX.st _).PQ _ _).uI 61 1 _ (by decide)).uI 61 2 _ (by decide)⟩
      unfold w_dn
      rw [← m1, ← m2]
      exact h2
    · refine pv_bipush (pc := 20) (v := (-6)) dX12_dances_20 (by decide) ?_
      refine pv_istore_3 (pc := 22) dX12_dances_22 (by decide) rfl ?_
      refine pv_iload_3 (pc := 23) dX12_dances_23 ?_
      refine pv_if_eq (pc := 24) (tgt := 33) dX12_dances_24 (by decide) (fun q => absurd q (by decide)) (fun _ => ?_)
      refine pv_aload_0 (pc := 27) dX12_dances_27 ?_
      refine pv_iload_3 (pc := 28) dX12_dances_28 ?_
      refine pv_callV1 (pc := 29) dX12_dances_29 mgX12_no lv_X12_115_12 (by decide) (sx_61 hT) (by omega) (c_X12_no (k := 6) hT hR (by decide) (by unfold vp_in; decide)) rfl rfl (by decide) ?_
      refine pv_iret (pc := 32) dX12_dances_32 rfl rfl ?_
      first
        | (have h9 := h17
           refine qM.scrref hM (m_ld_k I L (w_D J K s n)) (k_lt6 : 6 < 8) ?_; unfold S_dances; rw [if_pos h8, if_neg (by rw [(pv_b_0 _).mp h17]; decide)]; done)
        | (refine qM.ref hM (w_bars_n s n) ?_; unfold S_dances; rw [if_neg h8]; done)

