/-! call, judge, told, dances, same -/
theorem w_wants_c (J : pv_I) (s : Int32) : w_wants J s = 0 ∨ w_wants J s = -1 ∨ w_wants J s = -2 ∨ w_wants J s = -3 := by
  unfold w_wants
  split
  · split
    · exact Or.inr (Or.inr (Or.inl rfl))
    · split
      · exact Or.inr (Or.inr (Or.inr rfl))
      · exact Or.inl rfl
  · exact Or.inr (Or.inl rfl)
theorem w_bars_c (J : pv_I) (s n : Int32) : w_bars J s n = 0 ∨ w_bars J s n = -1 ∨ w_bars J s n = -2 ∨ w_bars J s n = -3 ∨ w_bars J s n = -4 ∨ w_bars J s n = -5 := by
  unfold w_bars
  by_cases h : w_wants J s = 0
  · rw [if_pos h]
    split
    · exact Or.inr (Or.inr (Or.inr (Or.inr (Or.inl rfl))))
    · split
      · exact Or.inr (Or.inr (Or.inr (Or.inr (Or.inr rfl))))
      · exact Or.inl rfl
  · rw [if_neg h]
    rcases w_wants_c J s with q | q | q | q
    · exact absurd q h
    · exact Or.inr (Or.inl q)
    · exact Or.inr (Or.inr (Or.inl q))
    · exact Or.inr (Or.inr (Or.inr (Or.inl q)))
theorem w_bars_in (J : pv_I) (s n : Int32) : vp_in (-(w_bars J s n)) 8 := by
  rcases w_bars_c J s n with q | q | q | q | q | q <;> (rw [q]; unfold vp_in; decide)
theorem w_bars_n {J : pv_I} (s n : Int32) : (-(w_bars J s n)).toNatClampNeg < 8 := (pv_in_lt (w_bars_in J s n)).2.2.1
/-- a shelf that has a row of so many -/
theorem w_bars_0 {J : pv_I} {K : pv_L} (hW : WF J K) {s n : Int32} (h : w_bars J s n = 0) : vp_in s 8 ∧ 0 ≤ n.toInt ∧ n.toInt ≤ 160 := by
  unfold w_bars at h
  split at h
  · rename_i hw
    obtain ⟨h1, h2, h3⟩ := w_wants_0 hw
    have w := hW.2.2.2.1 _ (pv_in_lt h1).2.2.1
    have w1 : J 6 s.toNatClampNeg = 1 := w.1.elim (fun r => absurd r h3) (fun r => r.elim id (fun r => absurd r h2))
    have w2 := w.2.1 w1
    split at h
    · exact absurd h (by decide)
    · rename_i g1
      split at h
      · exact absurd h (by decide)
      · rename_i g2
        rw [i_lt, Int32.toInt_zero] at g1
        rw [i_lt] at g2
        exact ⟨h1, by omega, by omega⟩
  · exact absurd h (by assumption)
def w_D (J : pv_I) (K : pv_L) (s n : Int32) : LD := w_led J K s.toNatClampNeg n.toNatClampNeg 0 0 (K 0 0) (K 0 1) (J 4) 0
theorem w_led_x {J : pv_I} {K : pv_L} {s m i : Nat} {x x1 y : Int32} {p q : Int64} {c : Nat → Int32} : w_led J K s m i x p q c y = w_led J K s m i x1 p q c y := by cases m <;> rfl
theorem w_led_D (I : pv_I) (J : pv_I) (K : pv_L) (s n : Int32) : w_led J K s.toNatClampNeg n.toNatClampNeg 0 (I 61 32) (K 0 0) (K 0 1) (J 4) 0 = w_D J K s n := w_led_x
theorem m_ld_k (I : pv_I) (L : pv_L) (r : LD) : kS I L (m_ld I r) (l_ld L r) := ((m_dn_k I L r.2.1 r.2.2.2.2.2).at _).pq _ _
theorem qM.scr {J : pv_I} {K : pv_L} {I I1 : pv_I} {L L1 : pv_L} {t : pv_T} {Rf : pv_R} (h : RM J K I L) (k : kS I L I1 L1) {v : Value} {r : SR} (hr : r = (v, J, K)) : qM r t I L Rf (some v) t I1 L1 Rf := by
  subst hr; exact ⟨rfl, rfl, rfl, h.scr k, k.kX⟩
theorem qM.scrref {J : pv_I} {K : pv_L} {I I1 : pv_I} {L L1 : pv_L} {t : pv_T} {Rf : pv_R} (h : RM J K I L) (k : kS I L I1 L1) {n : Nat} (hn : n < 8) {v : Value} {r : SR} (hr : r = S_ref J K n v) : qM r t I L Rf (some v) t (s_ref I1 n) L1 Rf := by
  subst hr; exact ⟨rfl, rfl, rfl, (h.scr k).ref hn, k.kX.tr kX.ref⟩
def S_judge (J : pv_I) (K : pv_L) (s n : Int32) : SR := if w_bars J s n = 0 then (.int (w_D J K s n).2.1, J, K) else S_ref J K (-(w_bars J s n)).toNatClampNeg (.int (w_bars J s n))
def S_told (J : pv_I) (K : pv_L) (s n x : Int32) : SR := if w_bars J s n = 0 then (if x < 0 ∨ 6 < x then S_ref J K 5 (.long (-2000000000000 + (-5 : Int32).toInt64)) else if (w_D J K s n).1 = true then
    (.long (if x = 0 then (w_D J K s n).2.2.1 else if x = 1 then (w_D J K s n).2.2.2.1 else if x = 6 then (w_D J K s n).2.2.2.2.2.toInt64 else ((w_D J K s n).2.2.2.2.1 (x - 2).toNatClampNeg).toInt64), J, K) else S_ref J K 6 (.long (-2000000000000 + (-6 : Int32).toInt64)))
  else S_ref J K (-(w_bars J s n)).toNatClampNeg (.long (-2000000000000 + (w_bars J s n).toInt64))
def w_st (J : pv_I) (c : Nat → Int32) : pv_I := pv_u (pv_u (pv_u (pv_u J 4 0 (c 0)) 4 1 (c 1)) 4 2 (c 2)) 4 3 (c 3)
/-- danced in truth -/
def w_dn (J : pv_I) (c : Nat → Int32) (n y : Int32) : pv_I := pv_u (pv_u (w_st J c) 0 1 (J 0 1 + n)) 0 2 (J 0 2 + y)
def w_pq (K : pv_L) (p q : Int64) : pv_L := pv_u (pv_u K 0 0 p) 0 1 q
def S_dances (J : pv_I) (K : pv_L) (s n : Int32) : SR := if w_bars J s n = 0 then (if (w_D J K s n).1 = true then (.int (J 0 1 + n), w_dn J (w_D J K s n).2.2.2.2.1 n (w_D J K s n).2.2.2.2.2, w_pq K (w_D J K s n).2.2.1 (w_D J K s n).2.2.2.1) else S_ref J K 6 (.int (-6))) else S_ref J K (-(w_bars J s n)).toNatClampNeg (.int (w_bars J s n))
/-- a figure danced in truth: danced?, the world -/
def w_cal (J : pv_I) (K : pv_L) (f : Nat) : Bool × pv_I × pv_L := if s_room (f_P (J 1 f) (J 2 f) (K 0 0) (K 0 1)) (f_Q (J 1 f) (J 2 f) (K 0 0) (K 0 1)) = true then (true, w_dn J (f_C (J 1 f) (J 2 f) (J 4)) 1 (J 3 f), w_pq K (f_P (J 1 f) (J 2 f) (K 0 0) (K 0 1)) (f_Q (J 1 f) (J 2 f) (K 0 0) (K 0 1))) else (false, J, K)
def S_call (J : pv_I) (K : pv_L) (f : Int32) : SR := if 0 ≤ f ∧ f < J 0 0 then (if (w_cal J K f.toNatClampNeg).1 = true then (.int (J 0 1 + 1), (w_cal J K f.toNatClampNeg).2.1, (w_cal J K f.toNatClampNeg).2.2) else S_ref J K 7 (.int (-7))) else S_ref J K 1 (.int (-1))
/-- the thought made true -/
theorem RM.tr {J : pv_I} {K : pv_L} {I : pv_I} {L : pv_L} {c : Nat → Int32} {p q : Int64} (h : RM J K I L) : RM (w_st J c) (w_pq K p q) (m_st (m_at I c) (m_at I c 73)) (m_PQ (m_pq L p q) p q) := by
  have h1 := ((h.scr ((kS.rf.at c).pq p q)).st (m_at I c 73)).PQ p q
  rw [m_at_73 I c 0 (by decide), m_at_73 I c 1 (by decide), m_at_73 I c 2 (by decide), m_at_73 I c 3 (by decide)] at h1
  exact h1
theorem kX.PQ {I I1 : pv_I} {L L1 : pv_L} (h : kX I L I1 L1) (p q : Int64) : kX I L I1 (m_PQ L1 p q) := (h.uL 61 5 p (by decide)).uL 61 6 q (by decide)

theorem w_cal_t {J : pv_I} {K : pv_L} {f : Nat} (h : (w_cal J K f).1 = true) : w_cal J K f = (true, w_dn J (f_C (J 1 f) (J 2 f) (J 4)) 1 (J 3 f), w_pq K (f_P (J 1 f) (J 2 f) (K 0 0) (K 0 1)) (f_Q (J 1 f) (J 2 f) (K 0 0) (K 0 1))) := by
  unfold w_cal at h ⊢
  by_cases e : s_room (f_P (J 1 f) (J 2 f) (K 0 0) (K 0 1)) (f_Q (J 1 f) (J 2 f) (K 0 0) (K 0 1)) = true
  · rw [if_pos e]
  · rw [if_neg e] at h; exact absurd (show false = true from h) (by decide)
theorem w_cal_f {J : pv_I} {K : pv_L} {f : Nat} (h : (w_cal J K f).1 = false) : w_cal J K f = (false, J, K) := by
  unfold w_cal at h ⊢
  by_cases e : s_room (f_P (J 1 f) (J 2 f) (K 0 0) (K 0 1)) (f_Q (J 1 f) (J 2 f) (K 0 0) (K 0 1)) = true
  · rw [if_pos e] at h; exact absurd (show true = false from h) (by decide)
  · rw [if_neg e]
set_option maxRecDepth 100000 in
set_option maxHeartbeats 4000000 in
theorem c_X12_calls {G : pv_G} {d : Nat} {J : pv_I} {K : pv_L} {f : Int32} {t : pv_T} {I : pv_I} {L : pv_L} {Rf : pv_R} (hT : sh_ok t) (hR : rf_ok Rf) (hW : WF J K) (hM : RM J K I L) (hF : w_isF J f) (hd : 3 ≤ d) : pv_Mt G mX12_calls d 0 0 [.ref 61, .int f] t I L Rf (qM (.int (pv_b (w_cal J K f.toNatClampNeg).1), (w_cal J K f.toNatClampNeg).2) t I L Rf) := by
  refine pv_mt mgX12_calls.2.2.2.2.2 [.ref 61, .int f] rfl (Nat.le_of_ble_eq_true rfl) ?_
  have hM1 := hM
  refine pv_aload_0 (pc := 0) dX12_calls_0 ?_
  refine pv_callV0 (pc := 1) dX12_calls_1 mgX12_begins lv_X12_230_12 (by decide) (sx_61 hT) (by omega) (n_begins hT hR hM) rfl rfl (by decide) ?_
  refine pv_aload_0 (pc := 4) dX12_calls_4 ?_
  refine pv_iload_1 (pc := 5) dX12_calls_5 ?_
  refine pv_callV0 (pc := 6) dX12_calls_6 mgX12_figured lv_X12_233_12 (by decide) (sx_61 hT) (by omega) (n_figured hT hR hW hM1 hF (by omega)) rfl rfl (by decide) ?_
  refine pv_aload_0 (pc := 9) dX12_calls_9 ?_
  refine pv_callV1 (pc := 10) dX12_calls_10 mgX12_isRoom lv_X12_236_12 (by decide) (sx_61 hT) (by omega) (c_X12_isRoom hT) rfl rfl (by decide) ?_
  refine pv_if_ne (pc := 13) (tgt := 18) dX12_calls_13 (by decide) (fun h13 => ?_) (fun h13 => ?_)
  · refine pv_aload_0 (pc := 18) dX12_calls_18 ?_
    refine pv_callV0 (pc := 19) dX12_calls_19 mgX12_truly lv_X12_239_12 (by decide) (sx_61 hT) (by omega) (c_X12_truly hT hR) rfl rfl (by decide) ?_
    refine pv_aload_0 (pc := 22) dX12_calls_22 ?_
    refine pv_dup (pc := 23) dX12_calls_23 rfl ?_
    refine pv_getI (pc := 24) dX12_calls_24 fg_X12_213_12 rfl (by decide) (sx_61 hT) ?_
    refine pv_iconst (pc := 27) (v := 1) dX12_calls_27 (by decide) ?_
    refine pv_iadd (pc := 28) dX12_calls_28 ?_
    refine pv_putI (pc := 29) dX12_calls_29 fl_X12_213_12 (fun q => by cases q) ⟨rfl, rfl, rfl⟩ (by decide) (sx_61 hT) ?_
    refine pv_aload_0 (pc := 32) dX12_calls_32 ?_
    refine pv_dup (pc := 33) dX12_calls_33 rfl ?_
    refine pv_getI (pc := 34) dX12_calls_34 fg_X12_216_12 rfl (by decide) (sx_61 hT) ?_
    refine pv_aload_0 (pc := 37) dX12_calls_37 ?_
    refine pv_getR (pc := 38) dX12_calls_38 fg_X12_30_12 rfl (by decide) (sx_61 hT) (rx_61_10 hR) ?_
    refine pv_iload_1 (pc := 41) dX12_calls_41 ?_
    refine pv_ialoadj (pc := 42) dX12_calls_42 (sx_65 hT) rfl (hF.nat hW).1 ?_
    refine pv_iadd (pc := 43) dX12_calls_43 ?_
    refine pv_putI (pc := 44) dX12_calls_44 fl_X12_216_12 (fun q => by cases q) ⟨rfl, rfl, rfl⟩ (by decide) (sx_61 hT) ?_
    refine pv_iconst (pc := 47) (v := 1) dX12_calls_47 (by decide) ?_
    refine pv_iret (pc := 48) dX12_calls_48 rfl rfl ?_
    have h14 : s_room (f_P (J 1 f.toNatClampNeg) (J 2 f.toNatClampNeg) (K 0 0) (K 0 1)) (f_Q (J 1 f.toNatClampNeg) (J 2 f.toNatClampNeg) (K 0 0) (K 0 1)) = true := (pv_b_n0 _).mp h13
    have e : w_cal J K f.toNatClampNeg = (true, w_dn J (f_C (J 1 f.toNatClampNeg) (J 2 f.toNatClampNeg) (J 4)) 1 (J 3 f.toNatClampNeg), w_pq K (f_P (J 1 f.toNatClampNeg) (J 2 f.toNatClampNeg) (K 0 0) (K 0 1)) (f_Q (J 1 f.toNatClampNeg) (J 2 f.toNatClampNeg) (K 0 0) (K 0 1))) := by unfold w_cal; rw [if_pos h14]
    rw [e]
    have hm3 : I 65 f.toNatClampNeg = J 3 f.toNatClampNeg := (hM.2.1 _ (hF.nat hW).2).2.2
    have h1 := (hM.tr (c := f_C (J 1 f.toNatClampNeg) (J 2 f.toNatClampNeg) (J 4)) (p := f_P (J 1 f.toNatClampNeg) (J 2 f.toNatClampNeg) (K 0 0) (K 0 1)) (q := f_Q (J 1 f.toNatClampNeg) (J 2 f.toNatClampNeg) (K 0 0) (K 0 1)))
    have h2 := (h1.f1 (I 61 1 + 1)).f2 (I 61 2 + I 65 f.toNatClampNeg)
    refine ⟨rfl, rfl, rfl, ?_, ((((kS.rf.at _).pq _ _).kX.st _).PQ _ _ |>.uI 61 1 _ (by decide)).uI 61 2 _ (by decide)⟩
    unfold w_dn
    rw [← hM.1.2.1, ← hM.1.2.2.1, ← hm3]
    exact h2
  · refine pv_iconst (pc := 16) (v := 0) dX12_calls_16 (by decide) ?_
    refine pv_iret (pc := 17) dX12_calls_17 rfl rfl ?_
    have h14 : s_room (f_P (J 1 f.toNatClampNeg) (J 2 f.toNatClampNeg) (K 0 0) (K 0 1)) (f_Q (J 1 f.toNatClampNeg) (J 2 f.toNatClampNeg) (K 0 0) (K 0 1)) = false := (pv_b_0 _).mp h13
    have e : w_cal J K f.toNatClampNeg = (false, J, K) := by unfold w_cal; rw [if_neg (by rw [h14]; decide)]
    rw [e]; exact qM.scr hM ((kS.rf.at _).pq _ _) rfl

set_option maxRecDepth 100000 in
set_option maxHeartbeats 4000000 in
theorem c_X12_call {G : pv_G} {d : Nat} {J : pv_I} {K : pv_L} {f : Int32} {t : pv_T} {I : pv_I} {L : pv_L} {Rf : pv_R} (hT : sh_ok t) (hR : rf_ok Rf) (hW : WF J K) (hM : RM J K I L) (hd : 6 ≤ d) : pv_Mt G mX12_call d 0 0 [.ref 61, .int f] t I L Rf (qM (S_call J K f) t I L Rf) := by
  refine pv_mt mgX12_call.2.2.2.2.2 [.ref 61, .int f] rfl (Nat.le_of_ble_eq_true rfl) ?_
  obtain ⟨⟨m0, m1, m2, m3, m4, m5, m6, m7, m8⟩, mf, mst, mh, mr, mt, mc, mi⟩ := id hM
  refine pv_aload_0 (pc := 0) dX12_call_0 ?_
  refine pv_iload_1 (pc := 1) dX12_call_1 ?_
  refine pv_callV1 (pc := 2) dX12_call_2 mgX12_isFigure lv_X12_119_12 (by decide) (sx_61 hT) (by omega) (c_X12_isFigure hT) rfl rfl (by decide) ?_
  refine pv_if_ne (pc := 5) (tgt := 14) dX12_call_5 (by decide) (fun h5 => ?_) (fun h5 => ?_)
  · refine pv_aload_0 (pc := 14) dX12_call_14 ?_
    refine pv_iload_1 (pc := 15) dX12_call_15 ?_
    refine pv_callVq (pc := 16) dX12_call_16 mgX12_calls lv_X12_206_12 (by decide) (sx_61 hT) (by omega) (c_X12_calls hT hR hW hM (isF1 hM h5) (by omega)) rfl rfl (by decide) (fun v t I L Rf hq => ?_)
    obtain ⟨q1, rfl, rfl, q4, q5⟩ := hq
    subst q1
    have hF := isF1 hM h5
    unfold w_isF at hF
    refine pv_if_eq (pc := 19) (tgt := 29) dX12_call_19 (by decide) (fun h19 => ?_) (fun h19 => ?_)
    · refine pv_aload_0 (pc := 29) dX12_call_29 ?_
      refine pv_bipush (pc := 30) (v := (-7)) dX12_call_30 (by decide) ?_
      refine pv_callV1 (pc := 32) dX12_call_32 mgX12_no lv_X12_115_12 (by decide) (sx_61 hT) (by omega) (c_X12_no (k := 7) hT hR (by decide) (by unfold vp_in; decide)) rfl rfl (by decide) ?_
      refine pv_iret (pc := 35) dX12_call_35 rfl rfl ?_
      first
        | (have e := (pv_b_n0 _).mp h19
           have e3 := w_cal_t e
           rw [e3] at q4
           unfold S_call
           rw [if_pos hF, if_pos e, e3]
           exact ⟨congrArg (fun z => some (Value.int z)) (q4.1.2.1), rfl, rfl, q4, q5⟩)
        | (have e := (pv_b_0 _).mp h19
           have e3 := w_cal_f e
           rw [e3] at q4
           unfold S_call
           rw [if_pos hF, if_neg (by rw [e]; decide)]
           exact ⟨rfl, rfl, rfl, q4.ref (by decide), q5.tr kX.ref⟩)
    · refine pv_aload_0 (pc := 22) dX12_call_22 ?_
      refine pv_getI (pc := 23) dX12_call_23 fg_X12_213_12 rfl (by decide) (sx_61 hT) ?_
      refine pv_goto (pc := 26) (tgt := 35) dX12_call_26 (by decide) ?_
      refine pv_iret (pc := 35) dX12_call_35 rfl rfl ?_
      first
        | (have e := (pv_b_n0 _).mp h19
           have e3 := w_cal_t e
           rw [e3] at q4
           unfold S_call
           rw [if_pos hF, if_pos e, e3]
           exact ⟨congrArg (fun z => some (Value.int z)) (q4.1.2.1), rfl, rfl, q4, q5⟩)
        | (have e := (pv_b_0 _).mp h19
           have e3 := w_cal_f e
           rw [e3] at q4
           unfold S_call
           rw [if_pos hF, if_neg (by rw [e]; decide)]
           exact ⟨rfl, rfl, rfl, q4.ref (by decide), q5.tr kX.ref⟩)
  · refine pv_aload_0 (pc := 8) dX12_call_8 ?_
    refine pv_iconst (pc := 9) (v := (-1)) dX12_call_9 (by decide) ?_
    refine pv_callV1 (pc := 10) dX12_call_10 mgX12_no lv_X12_115_12 (by decide) (sx_61 hT) (by omega) (c_X12_no (k := 1) hT hR (by decide) (by unfold vp_in; decide)) rfl rfl (by decide) ?_
    refine pv_iret (pc := 13) dX12_call_13 rfl rfl ?_
    refine qM.ref hM (by decide) ?_; unfold S_call; have hN := isF0 hM h5; unfold w_isF at hN; rw [if_neg hN]

set_option maxRecDepth 100000 in
set_option maxHeartbeats 4000000 in
theorem c_X12_judge {G : pv_G} {d : Nat} {J : pv_I} {K : pv_L} {s n : Int32} {t : pv_T} {I : pv_I} {L : pv_L} {Rf : pv_R} (hT : sh_ok t) (hR : rf_ok Rf) (hW : WF J K) (hM : RM J K I L) (hd : 6 ≤ d) : pv_Mt G mX12_judge d 0 0 [.ref 61, .int s, .int n] t I L Rf (qM (S_judge J K s n) t I L Rf) := by
  refine pv_mt mgX12_judge.2.2.2.2.2 [.ref 61, .int s, .int n, .retAddr 0] rfl (Nat.le_of_ble_eq_true rfl) ?_
  obtain ⟨⟨m0, m1, m2, m3, m4, m5, m6, m7, m8⟩, mf, mst, mh, mr, mt, mc, mi⟩ := id hM
  refine pv_aload_0 (pc := 0) dX12_judge_0 ?_
  refine pv_iload_1 (pc := 1) dX12_judge_1 ?_
  refine pv_iload_2 (pc := 2) dX12_judge_2 ?_
  refine pv_callV1 (pc := 3) dX12_judge_3 mgX12_bars lv_X12_254_12 (by decide) (sx_61 hT) (by omega) (c_X12_bars hT hR (by omega)) rfl rfl (by decide) ?_
  rw [hM.bars]
  refine pv_istore_3 (pc := 6) dX12_judge_6 (by decide) rfl ?_
  refine pv_iload_3 (pc := 7) dX12_judge_7 ?_
  refine pv_if_eq (pc := 8) (tgt := 17) dX12_judge_8 (by decide) (fun h8 => ?_) (fun h8 => ?_)
  · have hb := w_bars_0 hW h8
    refine pv_aload_0 (pc := 17) dX12_judge_17 ?_
    refine pv_iload_1 (pc := 18) dX12_judge_18 ?_
    refine pv_iload_2 (pc := 19) dX12_judge_19 ?_
    refine pv_callV1 (pc := 20) dX12_judge_20 mgX12_danced lv_X12_257_12 (by decide) (sx_61 hT) (by omega) (c_X12_danced hT hR hW hM hb.1 hb.2.1 hb.2.2 (by omega)) rfl rfl (by decide) ?_
    rw [w_led_D]
    refine pv_pop (pc := 23) dX12_judge_23 rfl ?_
    refine pv_aload_0 (pc := 24) dX12_judge_24 ?_
    refine pv_getI (pc := 25) dX12_judge_25 fg_X12_245_12 rfl (by decide) (sx_61 hT) ?_
    refine pv_iret (pc := 28) dX12_judge_28 rfl rfl ?_
    refine qM.scr hM (m_ld_k I L (w_D J K s n)) ?_
    unfold S_judge; rw [if_pos h8]; rfl
  · refine pv_aload_0 (pc := 11) dX12_judge_11 ?_
    refine pv_iload_3 (pc := 12) dX12_judge_12 ?_
    refine pv_callV1 (pc := 13) dX12_judge_13 mgX12_no lv_X12_115_12 (by decide) (sx_61 hT) (by omega) (c_X12_no (k := (-(w_bars J s n)).toNatClampNeg) hT hR rfl (w_bars_in J s n)) rfl rfl (by decide) ?_
    refine pv_iret (pc := 16) dX12_judge_16 rfl rfl ?_
    refine qM.ref hM (w_bars_n s n) ?_; unfold S_judge; rw [if_neg h8]

theorem w_x2 {x : Int32} (h1 : ¬ x < 0) (h2 : ¬ 6 < x) (h3 : ¬ x = 0) (h4 : ¬ x = 1) (h5 : ¬ x = 6) : vp_in (x - 2) 4 := by
  simp only [i_lt, ← Int32.toInt_inj, (show (0 : Int32).toInt = 0 from by decide), (show (1 : Int32).toInt = 1 from by decide), (show (6 : Int32).toInt = 6 from by decide)] at h1 h2 h3 h4 h5
  have e : (x - 2).toInt = x.toInt - 2 := by
    rw [Jvm.Kit.i32_sub (by rw [show (2 : Int32).toInt = 2 by decide]; omega) (by rw [show (2 : Int32).toInt = 2 by decide]; omega), show (2 : Int32).toInt = 2 by decide]
  exact pv_in_of (by omega) (by omega)
theorem k_lt5 : 5 < 8 := by decide
theorem k_lt6 : 6 < 8 := by decide
set_option maxRecDepth 100000 in
set_option maxHeartbeats 4000000 in
theorem c_X12_told {G : pv_G} {d : Nat} {J : pv_I} {K : pv_L} {s n x : Int32} {t : pv_T} {I : pv_I} {L : pv_L} {Rf : pv_R} (hT : sh_ok t) (hR : rf_ok Rf) (hW : WF J K) (hM : RM J K I L) (hd : 6 ≤ d) : pv_Mt G mX12_told d 0 0 [.ref 61, .int s, .int n, .int x] t I L Rf (qM (S_told J K s n x) t I L Rf) := by
  refine pv_mt mgX12_told.2.2.2.2.2 [.ref 61, .int s, .int n, .int x, .retAddr 0] rfl (Nat.le_of_ble_eq_true rfl) ?_
  obtain ⟨⟨m0, m1, m2, m3, m4, m5, m6, m7, m8⟩, mf, mst, mh, mr, mt, mc, mi⟩ := id hM
  refine pv_aload_0 (pc := 0) dX12_told_0 ?_
  refine pv_iload_1 (pc := 1) dX12_told_1 ?_
  refine pv_iload_2 (pc := 2) dX12_told_2 ?_
  refine pv_callV1 (pc := 3) dX12_told_3 mgX12_bars lv_X12_254_12 (by decide) (sx_61 hT) (by omega) (c_X12_bars hT hR (by omega)) rfl rfl (by decide) ?_
  rw [hM.bars]
  refine pv_istore_4 (pc := 6) dX12_told_6 (by decide) rfl ?_
  refine pv_iload_4 (pc := 8) dX12_told_8 ?_
  refine pv_if_ne (pc := 10) (tgt := 27) dX12_told_10 (by decide) (fun h10 => ?_) (fun h10 => ?_)
  · refine pv_iload_4 (pc := 27) dX12_told_27 ?_
    refine pv_if_ne (pc := 29) (tgt := 45) dX12_told_29 (by decide) (fun h29 => ?_) (fun h29 => absurd h29 h10)
    refine pv_iload_4 (pc := 45) dX12_told_45 ?_
    refine pv_if_eq (pc := 47) (tgt := 57) dX12_told_47 (by decide) (fun h47 => absurd h47 h10) (fun h47 => ?_)
    refine pv_aload_0 (pc := 50) dX12_told_50 ?_
    refine pv_iload_4 (pc := 51) dX12_told_51 ?_
    refine pv_callV1 (pc := 53) dX12_told_53 mgX12_noLow lv_X12_226_12 (by decide) (sx_61 hT) (by omega) (c_X12_noLow (k := (-(w_bars J s n)).toNatClampNeg) hT hR rfl (w_bars_in J s n)) rfl rfl (by decide) ?_
    refine pv_lret (pc := 56) dX12_told_56 rfl ?_
    first
      | (have h9 := h38
         refine qM.scrref hM (m_ld_k I L (w_D J K s n)) (k_lt6 : 6 < 8) ?_; unfold S_told; rw [if_pos h10, if_neg (fun r => r.elim h14 h20), if_neg (by rw [(pv_b_0 _).mp h38]; decide)]; done)
      | (have h9 := h20
         refine qM.ref hM (k_lt5 : 5 < 8) ?_; unfold S_told; rw [if_pos h10, if_pos (Or.inr h20)]; done)
      | (have h9 := h14
         refine qM.ref hM (k_lt5 : 5 < 8) ?_; unfold S_told; rw [if_pos h10, if_pos (Or.inl h14)]; done)
      | (refine qM.ref hM (w_bars_n s n) ?_; unfold S_told; rw [if_neg h10]; done)
  · rw [h10]
    refine pv_iload_3 (pc := 13) dX12_told_13 ?_
    refine pv_if_lt (pc := 14) (tgt := 23) dX12_told_14 (by decide) (fun h14 => ?_) (fun h14 => ?_)
    · refine pv_bipush (pc := 23) (v := (-5)) dX12_told_23 (by decide) ?_
      refine pv_istore_4 (pc := 25) dX12_told_25 (by decide) rfl ?_
      refine pv_iload_4 (pc := 27) dX12_told_27 ?_
      refine pv_if_ne (pc := 29) (tgt := 45) dX12_told_29 (by decide) (fun _ => ?_) (fun q => absurd q (by decide))
      refine pv_iload_4 (pc := 45) dX12_told_45 ?_
      refine pv_if_eq (pc := 47) (tgt := 57) dX12_told_47 (by decide) (fun q => absurd q (by decide)) (fun _ => ?_)
      refine pv_aload_0 (pc := 50) dX12_told_50 ?_
      refine pv_iload_4 (pc := 51) dX12_told_51 ?_
      refine pv_callV1 (pc := 53) dX12_told_53 mgX12_noLow lv_X12_226_12 (by decide) (sx_61 hT) (by omega) (c_X12_noLow (k := 5) hT hR (by decide) (by unfold vp_in; decide)) rfl rfl (by decide) ?_
      refine pv_lret (pc := 56) dX12_told_56 rfl ?_
      first
        | (have h9 := h38
           refine qM.scrref hM (m_ld_k I L (w_D J K s n)) (k_lt6 : 6 < 8) ?_; unfold S_told; rw [if_pos h10, if_neg (fun r => r.elim h14 h20), if_neg (by rw [(pv_b_0 _).mp h38]; decide)]; done)
        | (have h9 := h20
           refine qM.ref hM (k_lt5 : 5 < 8) ?_; unfold S_told; rw [if_pos h10, if_pos (Or.inr h20)]; done)
        | (have h9 := h14
           refine qM.ref hM (k_lt5 : 5 < 8) ?_; unfold S_told; rw [if_pos h10, if_pos (Or.inl h14)]; done)
        | (refine qM.ref hM (w_bars_n s n) ?_; unfold S_told; rw [if_neg h10]; done)
    · refine pv_iload_3 (pc := 17) dX12_told_17 ?_
      refine pv_bipush (pc := 18) (v := 6) dX12_told_18 (by decide) ?_
      refine pv_icmp_le (pc := 20) (tgt := 27) dX12_told_20 (by decide) (fun h20 => ?_) (fun h20 => ?_)
      · refine pv_iload_4 (pc := 27) dX12_told_27 ?_
        refine pv_if_ne (pc := 29) (tgt := 45) dX12_told_29 (by decide) (fun q => absurd q (by decide)) (fun _ => ?_)
        have hb := w_bars_0 hW h10
        refine pv_aload_0 (pc := 32) dX12_told_32 ?_
        refine pv_iload_1 (pc := 33) dX12_told_33 ?_
        refine pv_iload_2 (pc := 34) dX12_told_34 ?_
        refine pv_callV1 (pc := 35) dX12_told_35 mgX12_danced lv_X12_257_12 (by decide) (sx_61 hT) (by omega) (c_X12_danced hT hR hW hM hb.1 hb.2.1 hb.2.2 (by omega)) rfl rfl (by decide) ?_
        rw [w_led_D]
        refine pv_if_ne (pc := 38) (tgt := 45) dX12_told_38 (by decide) (fun h38 => ?_) (fun h38 => ?_)
        · refine pv_iload_4 (pc := 45) dX12_told_45 ?_
          refine pv_if_eq (pc := 47) (tgt := 57) dX12_told_47 (by decide) (fun _ => ?_) (fun q => absurd q (by decide))
          refine pv_iload_3 (pc := 57) dX12_told_57 ?_
          refine pv_if_ne (pc := 58) (tgt := 68) dX12_told_58 (by decide) (fun h58 => ?_) (fun h58 => ?_)
          · refine pv_iload_3 (pc := 68) dX12_told_68 ?_
            refine pv_iconst (pc := 69) (v := 1) dX12_told_69 (by decide) ?_
            refine pv_icmp_ne (pc := 70) (tgt := 80) dX12_told_70 (by decide) (fun h70 => ?_) (fun h70 => ?_)
            · refine pv_iload_3 (pc := 80) dX12_told_80 ?_
              refine pv_bipush (pc := 81) (v := 6) dX12_told_81 (by decide) ?_
              refine pv_icmp_ne (pc := 83) (tgt := 94) dX12_told_83 (by decide) (fun h83 => ?_) (fun h83 => ?_)
              · refine pv_aload_0 (pc := 94) dX12_told_94 ?_
                refine pv_getR (pc := 95) dX12_told_95 fg_X12_55_12 rfl (by decide) (sx_61 hT) (rx_61_20 hR) ?_
                refine pv_iload_3 (pc := 98) dX12_told_98 ?_
                refine pv_iconst (pc := 99) (v := 2) dX12_told_99 (by decide) ?_
                refine pv_isub (pc := 100) dX12_told_100 ?_
                refine pv_ialoadj (pc := 101) dX12_told_101 (sx_73 hT) rfl (w_x2 h14 h20 h58 h70 h83) ?_
                refine pv_i2l (pc := 102) dX12_told_102 ?_
                refine pv_lret (pc := 103) dX12_told_103 rfl ?_
                first
                  | (refine qM.scr hM (m_ld_k I L (w_D J K s n)) ?_
                     unfold S_told
                     rw [if_pos h10, if_neg (fun r => r.elim h14 h20), if_pos ((pv_b_n0 _).mp h38)]
                     first
                       | (rw [if_pos h58]; rfl)
                       | (rw [if_neg h58, if_pos h70]; rfl)
                       | (rw [if_neg h58, if_neg h70, if_pos h83]; rfl)
                       | (rw [if_neg h58, if_neg h70, if_neg h83, ← m_at_73 (m_dn I (w_D J K s n).2.1 (w_D J K s n).2.2.2.2.2) (w_D J K s n).2.2.2.2.1 _ (pv_in_lt (w_x2 h14 h20 h58 h70 h83)).2.2.1]; rfl))
              · refine pv_aload_0 (pc := 86) dX12_told_86 ?_
                refine pv_getI (pc := 87) dX12_told_87 fg_X12_248_12 rfl (by decide) (sx_61 hT) ?_
                refine pv_i2l (pc := 90) dX12_told_90 ?_
                refine pv_goto (pc := 91) (tgt := 103) dX12_told_91 (by decide) ?_
                refine pv_lret (pc := 103) dX12_told_103 rfl ?_
                first
                  | (refine qM.scr hM (m_ld_k I L (w_D J K s n)) ?_
                     unfold S_told
                     rw [if_pos h10, if_neg (fun r => r.elim h14 h20), if_pos ((pv_b_n0 _).mp h38)]
                     first
                       | (rw [if_pos h58]; rfl)
                       | (rw [if_neg h58, if_pos h70]; rfl)
                       | (rw [if_neg h58, if_neg h70, if_pos h83]; rfl)
                       | (rw [if_neg h58, if_neg h70, if_neg h83, ← m_at_73 (m_dn I (w_D J K s n).2.1 (w_D J K s n).2.2.2.2.2) (w_D J K s n).2.2.2.2.1 _ (pv_in_lt (w_x2 h14 h20 h58 h70 h83)).2.2.1]; rfl))
            · refine pv_aload_0 (pc := 73) dX12_told_73 ?_
              refine pv_getL (pc := 74) dX12_told_74 fg_X12_153_12 (by decide) (sx_61 hT) ?_
              refine pv_goto (pc := 77) (tgt := 103) dX12_told_77 (by decide) ?_
              refine pv_lret (pc := 103) dX12_told_103 rfl ?_
              first
                | (refine qM.scr hM (m_ld_k I L (w_D J K s n)) ?_
                   unfold S_told
                   rw [if_pos h10, if_neg (fun r => r.elim h14 h20), if_pos ((pv_b_n0 _).mp h38)]
                   first
                     | (rw [if_pos h58]; rfl)
                     | (rw [if_neg h58, if_pos h70]; rfl)
                     | (rw [if_neg h58, if_neg h70, if_pos h83]; rfl)
                     | (rw [if_neg h58, if_neg h70, if_neg h83, ← m_at_73 (m_dn I (w_D J K s n).2.1 (w_D J K s n).2.2.2.2.2) (w_D J K s n).2.2.2.2.1 _ (pv_in_lt (w_x2 h14 h20 h58 h70 h83)).2.2.1]; rfl))
          · refine pv_aload_0 (pc := 61) dX12_told_61 ?_
            refine pv_getL (pc := 62) dX12_told_62 fg_X12_150_12 (by decide) (sx_61 hT) ?_
            refine pv_goto (pc := 65) (tgt := 103) dX12_told_65 (by decide) ?_
            refine pv_lret (pc := 103) dX12_told_103 rfl ?_
            first
              | (refine qM.scr hM (m_ld_k I L (w_D J K s n)) ?_
                 unfold S_told
                 rw [if_pos h10, if_neg (fun r => r.elim h14 h20), if_pos ((pv_b_n0 _).mp h38)]
                 first
                   | (rw [if_pos h58]; rfl)
                   | (rw [if_neg h58, if_pos h70]; rfl)
                   | (rw [if_neg h58, if_neg h70, if_pos h83]; rfl)
                   | (rw [if_neg h58, if_neg h70, if_neg h83, ← m_at_73 (m_dn I (w_D J K s n).2.1 (w_D J K s n).2.2.2.2.2) (w_D J K s n).2.2.2.2.1 _ (pv_in_lt (w_x2 h14 h20 h58 h70 h83)).2.2.1]; rfl))
        · refine pv_bipush (pc := 41) (v := (-6)) dX12_told_41 (by decide) ?_
          refine pv_istore_4 (pc := 43) dX12_told_43 (by decide) rfl ?_
          refine pv_iload_4 (pc := 45) dX12_told_45 ?_
          refine pv_if_eq (pc := 47) (tgt := 57) dX12_told_47 (by decide) (fun q => absurd q (by decide)) (fun _ => ?_)
          refine pv_aload_0 (pc := 50) dX12_told_50 ?_
          refine pv_iload_4 (pc := 51) dX12_told_51 ?_
          refine pv_callV1 (pc := 53) dX12_told_53 mgX12_noLow lv_X12_226_12 (by decide) (sx_61 hT) (by omega) (c_X12_noLow (k := 6) hT hR (by decide) (by unfold vp_in; decide)) rfl rfl (by decide) ?_
          refine pv_lret (pc := 56) dX12_told_56 rfl ?_
          first
            | (have h9 := h38
               refine qM.scrref hM (m_ld_k I L (w_D J K s n)) (k_lt6 : 6 < 8) ?_; unfold S_told; rw [if_pos h10, if_neg (fun r => r.elim h14 h20), if_neg (by rw [(pv_b_0 _).mp h38]; decide)]; done)
            | (have h9 := h20
               refine qM.ref hM (k_lt5 : 5 < 8) ?_; unfold S_told; rw [if_pos h10, if_pos (Or.inr h20)]; done)
            | (have h9 := h14
               refine qM.ref hM (k_lt5 : 5 < 8) ?_; unfold S_told; rw [if_pos h10, if_pos (Or.inl h14)]; done)
            | (refine qM.ref hM (w_bars_n s n) ?_; unfold S_told; rw [if_neg h10]; done)
      · refine pv_bipush (pc := 23) (v := (-5)) dX12_told_23 (by decide) ?_
        refine pv_istore_4 (pc := 25) dX12_told_25 (by decide) rfl ?_
        refine pv_iload_4 (pc := 27) dX12_told_27 ?_
        refine pv_if_ne (pc := 29) (tgt := 45) dX12_told_29 (by decide) (fun _ => ?_) (fun q => absurd q (by decide))
        refine pv_iload_4 (pc := 45) dX12_told_45 ?_
        refine pv_if_eq (pc := 47) (tgt := 57) dX12_told_47 (by decide) (fun q => absurd q (by decide)) (fun _ => ?_)
        refine pv_aload_0 (pc := 50) dX12_told_50 ?_
        refine pv_iload_4 (pc := 51) dX12_told_51 ?_
        refine pv_callV1 (pc := 53) dX12_told_53 mgX12_noLow lv_X12_226_12 (by decide) (sx_61 hT) (by omega) (c_X12_noLow (k := 5) hT hR (by decide) (by unfold vp_in; decide)) rfl rfl (by decide) ?_
        refine pv_lret (pc := 56) dX12_told_56 rfl ?_
        first
          | (have h9 := h38
             refine qM.scrref hM (m_ld_k I L (w_D J K s n)) (k_lt6 : 6 < 8) ?_; unfold S_told; rw [if_pos h10, if_neg (fun r => r.elim h14 h20), if_neg (by rw [(pv_b_0 _).mp h38]; decide)]; done)
          | (have h9 := h20
             refine qM.ref hM (k_lt5 : 5 < 8) ?_; unfold S_told; rw [if_pos h10, if_pos (Or.inr h20)]; done)
          | (have h9 := h14
             refine qM.ref hM (k_lt5 : 5 < 8) ?_; unfold S_told; rw [if_pos h10, if_pos (Or.inl h14)]; done)
          | (refine qM.ref hM (w_bars_n s n) ?_; unfold S_told; rw [if_neg h10]; done)

