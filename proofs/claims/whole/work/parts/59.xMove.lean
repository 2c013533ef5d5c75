/-! the class: a figure moves a hall -/
def y_mv (k a : Int32) (p q : Int64) : Bool := if s_isC k = true then y_ok (f_P k a p q) else true
def q_mv (k a : Int32) (h : Nat) (n st sp sd : Int32) (p q : Int64) (c : Nat → Int32) (t : pv_T) (I : pv_I) (L : pv_L) (Rf : pv_R) : pv_Q := fun v t1 I1 L1 R1 => t1 = t ∧ R1 = Rf ∧ fH h I L I1 L1 ∧ ((y_mv k a p q = true ∧ v = some (.int 1) ∧ XHw h n st sp sd (f_P k a p q) (f_Q k a p q) (f_C k a c) I1 L1) ∨ (y_mv k a p q = false ∧ v = some (.int 0) ∧ I1 = I ∧ L1 = L))
theorem f_c0 (a : Int32) (p q : Int64) (c : Nat → Int32) : f_P 0 a p q = p ∧ f_Q 0 a p q = q ∧ f_C 0 a c = c ∧ y_mv 0 a p q = true := by
  have e1 : s_isC 0 = false := by decide
  have e2 : s_isT 0 = false := by decide
  refine ⟨?_, ?_, ?_, ?_⟩
  · unfold f_P; rw [if_neg (by rw [e1]; decide), if_neg (fun z => by rw [e2] at z; exact absurd z.1 (by decide))]
  · unfold f_Q; rw [if_neg (by rw [e1]; decide), if_neg (fun z => by rw [e2] at z; exact absurd z.1 (by decide))]
  · unfold f_C; rw [if_neg (by rw [e1]; decide), if_neg (by rw [e2]; decide)]
  · unfold y_mv; rw [if_neg (by rw [e1]; decide)]
theorem f_cC {k : Int32} (h : s_isC k = true) (a : Int32) (p q : Int64) (c : Nat → Int32) : f_P k a p q = p + (f_m k a).toInt64 * q ∧ f_Q k a p q = q ∧ f_C k a c = h_sw (f_m k a) c ∧ y_mv k a p q = y_ok (p + (f_m k a).toInt64 * q) := by
  have e : f_P k a p q = p + (f_m k a).toInt64 * q := by unfold f_P; rw [if_pos h]
  refine ⟨e, ?_, ?_, ?_⟩
  · unfold f_Q; rw [if_pos h]
  · unfold f_C; rw [if_pos h]
  · unfold y_mv; rw [if_pos h, e]
theorem f_cT {k : Int32} (h : s_isC k = false) (h2 : s_isT k = true) (a : Int32) (p q : Int64) (c : Nat → Int32) : f_P k a p q = (if f_n k a % 2 = 1 then s_stepP 2 p q else p) ∧ f_Q k a p q = (if f_n k a % 2 = 1 then s_stepQ 2 p q else q) ∧ f_C k a c = h_on (f_r k a) c ∧ y_mv k a p q = true := by
  refine ⟨?_, ?_, ?_, ?_⟩
  · unfold f_P; rw [if_neg (by rw [h]; decide)]
    by_cases g : f_n k a % 2 = 1
    · rw [if_pos g, if_pos ⟨h2, g⟩]
    · rw [if_neg g, if_neg (fun z => g z.2)]
  · unfold f_Q; rw [if_neg (by rw [h]; decide)]
    by_cases g : f_n k a % 2 = 1
    · rw [if_pos g, if_pos ⟨h2, g⟩]
    · rw [if_neg g, if_neg (fun z => g z.2)]
  · unfold f_C; rw [if_neg (by rw [h]; decide), if_pos h2]
  · unfold y_mv; rw [if_neg (by rw [h]; decide)]
theorem i_and3 {a : Int32} (h : 0 ≤ a.toInt) : a &&& 3 = Int32.ofNat (a % 4).toNatClampNeg ∧ (a % 4).toNatClampNeg < 4 := by
  have h1 : (a &&& 3).toInt = a.toInt % 2 ^ 2 := Jvm.Kit.i32_mask a 3 (by decide) (by decide)
  have h2 : (a % 4).toInt = a.toInt % 4 := by rw [Int32.toInt_mod, show (4 : Int32).toInt = 4 by decide, Int.tmod_eq_emod_of_nonneg h]
  have h3 := i_lit (a % 4)
  refine ⟨?_, by omega⟩
  rw [← Int32.toInt_inj, h1, i_of (by omega)]
  omega
theorem i_odd {a : Int32} (h : 0 ≤ a.toInt) : (a % 2 = 1) ↔ ¬ (a &&& 1 = 0) := by
  rw [i_and1]
  have h2 : (a % 2).toInt = a.toInt % 2 := by rw [Int32.toInt_mod, show (2 : Int32).toInt = 2 by decide, Int.tmod_eq_emod_of_nonneg h]
  rw [← Int32.toInt_inj, ← Int32.toInt_inj, h2, Int32.toInt_zero, show (1 : Int32).toInt = 1 by decide]
  omega

set_option maxRecDepth 100000 in
set_option maxHeartbeats 4000000 in
theorem c_X1_more {G : pv_G} {d : Nat} {x : Nat} {t : pv_T} {I : pv_I} {L : pv_L} {Rf : pv_R} (hx16 : 16 ≤ x) (hfs : t.1 x = some (.inr 1)) : pv_Mt G mX1_more d 0 0 [.ref x] t I L Rf (pv_is (some (.int (1))) t I L Rf) := by
  refine pv_mt mgX1_more.2.2.2.2.2 [.ref x] rfl (Nat.le_of_ble_eq_true rfl) ?_
  refine pv_iconst (pc := 0) (v := 1) dX1_more_0 (by decide) ?_
  refine pv_iret (pc := 1) dX1_more_1 rfl rfl ?_
  exact ⟨rfl, rfl, rfl, rfl, rfl⟩

set_option maxRecDepth 100000 in
set_option maxHeartbeats 4000000 in
theorem c_X10_more {G : pv_G} {d : Nat} {x : Nat} {t : pv_T} {I : pv_I} {L : pv_L} {Rf : pv_R} (hx16 : 16 ≤ x) (hfs : t.1 x = some (.inr 10)) : pv_Mt G mX10_more d 0 0 [.ref x] t I L Rf (pv_is (some (.int (-1))) t I L Rf) := by
  refine pv_mt mgX10_more.2.2.2.2.2 [.ref x] rfl (Nat.le_of_ble_eq_true rfl) ?_
  refine pv_iconst (pc := 0) (v := (-1)) dX10_more_0 (by decide) ?_
  refine pv_iret (pc := 1) dX10_more_1 rfl rfl ?_
  exact ⟨rfl, rfl, rfl, rfl, rfl⟩

set_option maxRecDepth 100000 in
set_option maxHeartbeats 4000000 in
theorem c_X5_more {G : pv_G} {d : Nat} {x : Nat} {t : pv_T} {I : pv_I} {L : pv_L} {Rf : pv_R} (hx16 : 16 ≤ x) (hfs : t.1 x = some (.inr 5)) : pv_Mt G mX5_more d 0 0 [.ref x] t I L Rf (pv_is (some (.int (I x 2))) t I L Rf) := by
  refine pv_mt mgX5_more.2.2.2.2.2 [.ref x] rfl (Nat.le_of_ble_eq_true rfl) ?_
  refine pv_aload_0 (pc := 0) dX5_more_0 ?_
  refine pv_getI (pc := 1) dX5_more_1 fg_X5_7_5 rfl hx16 hfs ?_
  refine pv_iret (pc := 4) dX5_more_4 rfl rfl ?_
  exact ⟨rfl, rfl, rfl, rfl, rfl⟩

set_option maxRecDepth 100000 in
set_option maxHeartbeats 4000000 in
theorem c_X9_turns {G : pv_G} {d : Nat} {x : Nat} {t : pv_T} {I : pv_I} {L : pv_L} {Rf : pv_R} (hx16 : 16 ≤ x) (hfs : t.1 x = some (.inr 9)) : pv_Mt G mX9_turns d 0 0 [.ref x] t I L Rf (pv_is (some (.int (1))) t I L Rf) := by
  refine pv_mt mgX9_turns.2.2.2.2.2 [.ref x] rfl (Nat.le_of_ble_eq_true rfl) ?_
  refine pv_iconst (pc := 0) (v := 1) dX9_turns_0 (by decide) ?_
  refine pv_iret (pc := 1) dX9_turns_1 rfl rfl ?_
  exact ⟨rfl, rfl, rfl, rfl, rfl⟩

set_option maxRecDepth 100000 in
set_option maxHeartbeats 4000000 in
theorem c_X0_turns {G : pv_G} {d : Nat} {x : Nat} {t : pv_T} {I : pv_I} {L : pv_L} {Rf : pv_R} (hx16 : 16 ≤ x) (hfs : t.1 x = some (.inr 0)) : pv_Mt G mX0_turns d 0 0 [.ref x] t I L Rf (pv_is (some (.int (3))) t I L Rf) := by
  refine pv_mt mgX0_turns.2.2.2.2.2 [.ref x] rfl (Nat.le_of_ble_eq_true rfl) ?_
  refine pv_iconst (pc := 0) (v := 3) dX0_turns_0 (by decide) ?_
  refine pv_iret (pc := 1) dX0_turns_1 rfl rfl ?_
  exact ⟨rfl, rfl, rfl, rfl, rfl⟩

set_option maxRecDepth 100000 in
set_option maxHeartbeats 4000000 in
theorem c_X6_turns {G : pv_G} {d : Nat} {x : Nat} {t : pv_T} {I : pv_I} {L : pv_L} {Rf : pv_R} (hx16 : 16 ≤ x) (hfs : t.1 x = some (.inr 6)) : pv_Mt G mX6_turns d 0 0 [.ref x] t I L Rf (pv_is (some (.int (I x 2))) t I L Rf) := by
  refine pv_mt mgX6_turns.2.2.2.2.2 [.ref x] rfl (Nat.le_of_ble_eq_true rfl) ?_
  refine pv_aload_0 (pc := 0) dX6_turns_0 ?_
  refine pv_getI (pc := 1) dX6_turns_1 fg_X6_7_6 rfl hx16 hfs ?_
  refine pv_iret (pc := 4) dX6_turns_4 rfl rfl ?_
  exact ⟨rfl, rfl, rfl, rfl, rfl⟩

set_option maxRecDepth 100000 in
set_option maxHeartbeats 4000000 in
theorem c_mv0 {G : pv_G} {d : Nat} {h : Nat} {n st sp sd : Int32} {p q : Int64} {c : Nat → Int32} {x : Nat} {t : pv_T} {I0 : pv_I} {L : pv_L} {Rf : pv_R} (hx16 : 16 ≤ x) (hfs : t.1 x = some (.inr 3)) (hh : hl_ok t Rf h) (hx : XHw h n st sp sd p q c I0 L) (hd : 4 ≤ d) : pv_Mt G mX3_move d 0 0 [.ref x, .ref h] t I0 L Rf (q_mv 0 (I0 x 2) h n st sp sd p q c t I0 L Rf) := by
  refine pv_mt mgX3_move.2.2.2.2.2 [.ref x, .ref h] rfl (Nat.le_of_ble_eq_true rfl) ?_
  refine pv_iconst (pc := 0) (v := 1) dX3_move_0 (by decide) ?_
  refine pv_iret (pc := 1) dX3_move_1 rfl rfl ?_
  obtain ⟨l1, l2, l3, l4⟩ := f_c0 (I0 x 2) p q c
  unfold q_mv
  rw [l1, l2, l3, l4]
  exact ⟨rfl, rfl, fH.rf, Or.inl ⟨rfl, rfl, hx⟩⟩

set_option maxRecDepth 100000 in
set_option maxHeartbeats 4000000 in
theorem c_mv1 {G : pv_G} {d : Nat} {h : Nat} {n st sp sd : Int32} {p q : Int64} {c : Nat → Int32} {x : Nat} {t : pv_T} {I0 : pv_I} {L : pv_L} {Rf : pv_R} (hx16 : 16 ≤ x) (hfs : t.1 x = some (.inr 1)) (hh : hl_ok t Rf h) (hx : XHw h n st sp sd p q c I0 L) (hd : 4 ≤ d) : pv_Mt G mX1_move d 0 0 [.ref x, .ref h] t I0 L Rf (q_mv 1 (I0 x 2) h n st sp sd p q c t I0 L Rf) := by
  refine pv_mt mgX1_move.2.2.2.2.2 [.ref x, .ref h] rfl (Nat.le_of_ble_eq_true rfl) ?_
  refine pv_aload_1 (pc := 0) dX1_move_0 ?_
  refine pv_aload_0 (pc := 1) dX1_move_1 ?_
  refine pv_callU1 (pc := 2) dX1_move_2 mgX1_more lu_X1_7_1 hx16 hfs (by omega) (c_X1_more hx16 hfs) rfl rfl (Nat.le_of_ble_eq_true rfl) ?_
  refine pv_callVq (pc := 5) dX1_move_5 mgX4_change lv_X1_13_4 hh.1 hh.2.2.1 (by omega) (c_X4_change hh hx) rfl rfl (by decide) (fun v t I L Rf hq => ?_)
  obtain ⟨rfl, rfl, hf, ho⟩ := hq
  rcases ho with ⟨e1, rfl, e2⟩ | ⟨e1, rfl, rfl, rfl⟩
  · refine pv_iret (pc := 8) dX1_move_8 rfl rfl ?_
    obtain ⟨l1, l2, l3, l4⟩ := f_cC (k := 1) (by decide) (I0 x 2) p q c
    unfold q_mv
    rw [l1, l2, l3, l4]
    exact ⟨rfl, rfl, hf, Or.inl ⟨e1, rfl, e2⟩⟩
  · refine pv_iret (pc := 8) dX1_move_8 rfl rfl ?_
    obtain ⟨l1, l2, l3, l4⟩ := f_cC (k := 1) (by decide) (I x 2) p q c
    unfold q_mv
    rw [l4]
    exact ⟨rfl, rfl, hf, Or.inr ⟨e1, rfl, rfl, rfl⟩⟩

set_option maxRecDepth 100000 in
set_option maxHeartbeats 4000000 in
theorem c_mv2 {G : pv_G} {d : Nat} {h : Nat} {n st sp sd : Int32} {p q : Int64} {c : Nat → Int32} {x : Nat} {t : pv_T} {I0 : pv_I} {L : pv_L} {Rf : pv_R} (hx16 : 16 ≤ x) (hfs : t.1 x = some (.inr 10)) (hh : hl_ok t Rf h) (hx : XHw h n st sp sd p q c I0 L) (hd : 4 ≤ d) : pv_Mt G mX1_move d 0 0 [.ref x, .ref h] t I0 L Rf (q_mv 2 (I0 x 2) h n st sp sd p q c t I0 L Rf) := by
  refine pv_mt mgX1_move.2.2.2.2.2 [.ref x, .ref h] rfl (Nat.le_of_ble_eq_true rfl) ?_
  refine pv_aload_1 (pc := 0) dX1_move_0 ?_
  refine pv_aload_0 (pc := 1) dX1_move_1 ?_
  refine pv_callU1 (pc := 2) dX1_move_2 mgX10_more lu_X1_7_10 hx16 hfs (by omega) (c_X10_more hx16 hfs) rfl rfl (Nat.le_of_ble_eq_true rfl) ?_
  refine pv_callVq (pc := 5) dX1_move_5 mgX4_change lv_X1_13_4 hh.1 hh.2.2.1 (by omega) (c_X4_change hh hx) rfl rfl (by decide) (fun v t I L Rf hq => ?_)
  obtain ⟨rfl, rfl, hf, ho⟩ := hq
  rcases ho with ⟨e1, rfl, e2⟩ | ⟨e1, rfl, rfl, rfl⟩
  · refine pv_iret (pc := 8) dX1_move_8 rfl rfl ?_
    obtain ⟨l1, l2, l3, l4⟩ := f_cC (k := 2) (by decide) (I0 x 2) p q c
    unfold q_mv
    rw [l1, l2, l3, l4]
    exact ⟨rfl, rfl, hf, Or.inl ⟨e1, rfl, e2⟩⟩
  · refine pv_iret (pc := 8) dX1_move_8 rfl rfl ?_
    obtain ⟨l1, l2, l3, l4⟩ := f_cC (k := 2) (by decide) (I x 2) p q c
    unfold q_mv
    rw [l4]
    exact ⟨rfl, rfl, hf, Or.inr ⟨e1, rfl, rfl, rfl⟩⟩

set_option maxRecDepth 100000 in
set_option maxHeartbeats 4000000 in
theorem c_mv3 {G : pv_G} {d : Nat} {h : Nat} {n st sp sd : Int32} {p q : Int64} {c : Nat → Int32} {x : Nat} {t : pv_T} {I0 : pv_I} {L : pv_L} {Rf : pv_R} (hx16 : 16 ≤ x) (hfs : t.1 x = some (.inr 5)) (hh : hl_ok t Rf h) (hx : XHw h n st sp sd p q c I0 L) (hd : 4 ≤ d) : pv_Mt G mX1_move d 0 0 [.ref x, .ref h] t I0 L Rf (q_mv 3 (I0 x 2) h n st sp sd p q c t I0 L Rf) := by
  refine pv_mt mgX1_move.2.2.2.2.2 [.ref x, .ref h] rfl (Nat.le_of_ble_eq_true rfl) ?_
  refine pv_aload_1 (pc := 0) dX1_move_0 ?_
  refine pv_aload_0 (pc := 1) dX1_move_1 ?_
  refine pv_callU1 (pc := 2) dX1_move_2 mgX5_more lu_X1_7_5 hx16 hfs (by omega) (c_X5_more hx16 hfs) rfl rfl (Nat.le_of_ble_eq_true rfl) ?_
  refine pv_callVq (pc := 5) dX1_move_5 mgX4_change lv_X1_13_4 hh.1 hh.2.2.1 (by omega) (c_X4_change hh hx) rfl rfl (by decide) (fun v t I L Rf hq => ?_)
  obtain ⟨rfl, rfl, hf, ho⟩ := hq
  rcases ho with ⟨e1, rfl, e2⟩ | ⟨e1, rfl, rfl, rfl⟩
  · refine pv_iret (pc := 8) dX1_move_8 rfl rfl ?_
    obtain ⟨l1, l2, l3, l4⟩ := f_cC (k := 3) (by decide) (I0 x 2) p q c
    unfold q_mv
    rw [l1, l2, l3, l4]
    exact ⟨rfl, rfl, hf, Or.inl ⟨e1, rfl, e2⟩⟩
  · refine pv_iret (pc := 8) dX1_move_8 rfl rfl ?_
    obtain ⟨l1, l2, l3, l4⟩ := f_cC (k := 3) (by decide) (I x 2) p q c
    unfold q_mv
    rw [l4]
    exact ⟨rfl, rfl, hf, Or.inr ⟨e1, rfl, rfl, rfl⟩⟩

set_option maxRecDepth 100000 in
set_option maxHeartbeats 4000000 in
theorem c_mv4 {G : pv_G} {d : Nat} {h : Nat} {n st sp sd : Int32} {p q : Int64} {c : Nat → Int32} {x : Nat} {t : pv_T} {I0 : pv_I} {L : pv_L} {Rf : pv_R} (hx16 : 16 ≤ x) (hfs : t.1 x = some (.inr 9)) (hh : hl_ok t Rf h) (hx : XHw h n st sp sd p q c I0 L) (hd : 4 ≤ d) : pv_Mt G mX9_move d 0 0 [.ref x, .ref h] t I0 L Rf (q_mv 4 (I0 x 2) h n st sp sd p q c t I0 L Rf) := by
  refine pv_mt mgX9_move.2.2.2.2.2 [.ref x, .ref h] rfl (Nat.le_of_ble_eq_true rfl) ?_
  refine pv_aload_1 (pc := 0) dX9_move_0 ?_
  refine pv_aload_0 (pc := 1) dX9_move_1 ?_
  refine pv_callU1 (pc := 2) dX9_move_2 mgX9_turns lu_X9_7_9 hx16 hfs (by omega) (c_X9_turns hx16 hfs) rfl rfl (Nat.le_of_ble_eq_true rfl) ?_
  refine pv_callVq (pc := 5) dX9_move_5 mgX4_turn lv_X9_13_4 hh.1 hh.2.2.1 (by omega) (c_X4_turn (m := 1) hh hx (by decide) (by decide) (by omega)) rfl rfl (by decide) (fun v t I L Rf hq => ?_)
  obtain ⟨rfl, rfl, rfl, hf, e2⟩ := hq
  refine pv_iconst (pc := 8) (v := 1) dX9_move_8 (by decide) ?_
  refine pv_iret (pc := 9) dX9_move_9 rfl rfl ?_
  obtain ⟨l1, l2, l3, l4⟩ := f_cT (k := 4) (by decide) (by decide) (I0 x 2) p q c
  have en : f_n 4 (I0 x 2) = 1 := rfl
  have er : f_r 4 (I0 x 2) = 1 := by unfold f_r; rw [if_neg (by decide), en]; decide
  have eo : ∀ u v : Int64, y_od 1 u v = u := fun u v => if_neg (by decide)
  rw [eo, eo] at e2
  unfold q_mv
  rw [l1, l2, l3, l4, en, er, if_pos (by decide), if_pos (by decide)]
  exact ⟨rfl, rfl, hf, Or.inl ⟨rfl, rfl, e2⟩⟩

set_option maxRecDepth 100000 in
set_option maxHeartbeats 4000000 in
theorem c_mv5 {G : pv_G} {d : Nat} {h : Nat} {n st sp sd : Int32} {p q : Int64} {c : Nat → Int32} {x : Nat} {t : pv_T} {I0 : pv_I} {L : pv_L} {Rf : pv_R} (hx16 : 16 ≤ x) (hfs : t.1 x = some (.inr 0)) (hh : hl_ok t Rf h) (hx : XHw h n st sp sd p q c I0 L) (hd : 4 ≤ d) : pv_Mt G mX9_move d 0 0 [.ref x, .ref h] t I0 L Rf (q_mv 5 (I0 x 2) h n st sp sd p q c t I0 L Rf) := by
  refine pv_mt mgX9_move.2.2.2.2.2 [.ref x, .ref h] rfl (Nat.le_of_ble_eq_true rfl) ?_
  refine pv_aload_1 (pc := 0) dX9_move_0 ?_
  refine pv_aload_0 (pc := 1) dX9_move_1 ?_
  refine pv_callU1 (pc := 2) dX9_move_2 mgX0_turns lu_X9_7_0 hx16 hfs (by omega) (c_X0_turns hx16 hfs) rfl rfl (Nat.le_of_ble_eq_true rfl) ?_
  refine pv_callVq (pc := 5) dX9_move_5 mgX4_turn lv_X9_13_4 hh.1 hh.2.2.1 (by omega) (c_X4_turn (m := 3) hh hx (by decide) (by decide) (by omega)) rfl rfl (by decide) (fun v t I L Rf hq => ?_)
  obtain ⟨rfl, rfl, rfl, hf, e2⟩ := hq
  refine pv_iconst (pc := 8) (v := 1) dX9_move_8 (by decide) ?_
  refine pv_iret (pc := 9) dX9_move_9 rfl rfl ?_
  obtain ⟨l1, l2, l3, l4⟩ := f_cT (k := 5) (by decide) (by decide) (I0 x 2) p q c
  have en : f_n 5 (I0 x 2) = 1 := rfl
  have er : f_r 5 (I0 x 2) = 3 := rfl
  have eo : ∀ u v : Int64, y_od 3 u v = u := fun u v => if_neg (by decide)
  rw [eo, eo] at e2
  unfold q_mv
  rw [l1, l2, l3, l4, en, er, if_pos (by decide), if_pos (by decide)]
  exact ⟨rfl, rfl, hf, Or.inl ⟨rfl, rfl, e2⟩⟩

set_option maxRecDepth 100000 in
set_option maxHeartbeats 4000000 in
theorem c_mv6 {G : pv_G} {d : Nat} {h : Nat} {n st sp sd : Int32} {p q : Int64} {c : Nat → Int32} {x : Nat} {t : pv_T} {I0 : pv_I} {L : pv_L} {Rf : pv_R} (hx16 : 16 ≤ x) (hfs : t.1 x = some (.inr 6)) (hh : hl_ok t Rf h) (hx : XHw h n st sp sd p q c I0 L) (hd : 4 ≤ d) (ha : 0 ≤ (I0 x 2).toInt) : pv_Mt G mX9_move d 0 0 [.ref x, .ref h] t I0 L Rf (q_mv 6 (I0 x 2) h n st sp sd p q c t I0 L Rf) := by
  refine pv_mt mgX9_move.2.2.2.2.2 [.ref x, .ref h] rfl (Nat.le_of_ble_eq_true rfl) ?_
  refine pv_aload_1 (pc := 0) dX9_move_0 ?_
  refine pv_aload_0 (pc := 1) dX9_move_1 ?_
  refine pv_callU1 (pc := 2) dX9_move_2 mgX6_turns lu_X9_7_6 hx16 hfs (by omega) (c_X6_turns hx16 hfs) rfl rfl (Nat.le_of_ble_eq_true rfl) ?_
  refine pv_callVq (pc := 5) dX9_move_5 mgX4_turn lv_X9_13_4 hh.1 hh.2.2.1 (by omega) (c_X4_turn (m := (I0 x 2 % 4).toNatClampNeg) hh hx (i_and3 ha).2 (i_and3 ha).1 (by omega)) rfl rfl (by decide) (fun v t I L Rf hq => ?_)
  obtain ⟨rfl, rfl, rfl, hf, e2⟩ := hq
  refine pv_iconst (pc := 8) (v := 1) dX9_move_8 (by decide) ?_
  refine pv_iret (pc := 9) dX9_move_9 rfl rfl ?_
  obtain ⟨l1, l2, l3, l4⟩ := f_cT (k := 6) (by decide) (by decide) (I0 x 2) p q c
  have e : y_od (I0 x 2) (s_stepP 2 p q) p = f_P 6 (I0 x 2) p q ∧ y_od (I0 x 2) (s_stepQ 2 p q) q = f_Q 6 (I0 x 2) p q := by
    have en : f_n 6 (I0 x 2) = I0 x 2 := rfl
    rw [l1, l2, en]
    unfold y_od
    by_cases g : I0 x 2 &&& 1 = 0
    · rw [if_pos g, if_pos g, if_neg (fun z => (i_odd ha).mp z g), if_neg (fun z => (i_odd ha).mp z g)]; exact ⟨rfl, rfl⟩
    · rw [if_neg g, if_neg g, if_pos ((i_odd ha).mpr g), if_pos ((i_odd ha).mpr g)]; exact ⟨rfl, rfl⟩
  rw [e.1, e.2] at e2
  unfold q_mv
  rw [l4]
  refine ⟨rfl, rfl, hf, Or.inl ⟨rfl, rfl, ?_⟩⟩
  rw [l3]
  exact e2

set_option maxRecDepth 100000 in
set_option maxHeartbeats 4000000 in
theorem c_X4_dance {G : pv_G} {d : Nat} {h : Nat} {n st sp sd k a cs : Int32} {p q : Int64} {c : Nat → Int32} {x : Nat} {t : pv_T} {I : pv_I} {L : pv_L} {Rf : pv_R} (hh : hl_ok t Rf h) (hx : XHw h n st sp sd p q c I L) (hk : 0 ≤ k.toInt ∧ k.toInt ≤ 6) (ha : 0 ≤ a.toInt ∧ a.toInt ≤ 9) (fx2 : 90 ≤ x) (fx4 : t.1 x = some (.inr (fcls k))) (fx7 : I x 2 = a) (fx8 : I x 3 = cs) (hd : 6 ≤ d) : pv_Mt G mX4_dance d 0 0 [.ref h, .ref x] t I L Rf (fun v t1 I1 L1 R1 => t1 = t ∧ R1 = Rf ∧ fH h I L I1 L1 ∧ ((y_mv k a p q = true ∧ v = some (.int 1) ∧ XHw h n (st + 1) (sp + cs) sd (f_P k a p q) (f_Q k a p q) (f_C k a c) I1 L1) ∨ (y_mv k a p q = false ∧ v = some (.int 0) ∧ I1 = I ∧ L1 = L))) := by
  refine pv_mt mgX4_dance.2.2.2.2.2 [.ref h, .ref x] rfl (Nat.le_of_ble_eq_true rfl) ?_
  rcases fcls_k hk with ⟨kk, hfc⟩ | ⟨kk, hfc⟩ | ⟨kk, hfc⟩ | ⟨kk, hfc⟩ | ⟨kk, hfc⟩ | ⟨kk, hfc⟩ | ⟨kk, hfc⟩
  · have hfs : t.1 x = some (.inr 3) := by rw [fx4, hfc]
    subst kk
    refine pv_aload_1 (pc := 0) dX4_dance_0 ?_
    refine pv_ifnull (pc := 1) dX4_dance_1 ?_
    refine pv_aload_1 (pc := 4) dX4_dance_4 ?_
    refine pv_aload_0 (pc := 5) dX4_dance_5 ?_
    refine pv_callUq (pc := 6) dX4_dance_6 mgX3_move lu_X4_45_3 (by omega) hfs (by omega) (c_mv0 (by omega) hfs hh hx (by omega)) rfl rfl (by decide) (fun v t I L Rf hq => ?_)
    obtain ⟨rfl, rfl, hf, ho⟩ := hq
    rw [fx7] at ho
    rcases ho with ⟨e1, rfl, e2⟩ | ⟨e1, rfl, rfl, rfl⟩
    · skip
      refine pv_if_ne (pc := 9) (tgt := 14) dX4_dance_9 (by decide) (fun _ => ?_) (fun q => absurd q (by decide))
      refine pv_aload_0 (pc := 14) dX4_dance_14 ?_
      refine pv_dup (pc := 15) dX4_dance_15 rfl ?_
      refine pv_getI (pc := 16) dX4_dance_16 fg_X4_35_4 rfl hh.1 hh.2.2.1 ?_
      refine pv_iconst (pc := 19) (v := 1) dX4_dance_19 (by decide) ?_
      refine pv_iadd (pc := 20) dX4_dance_20 ?_
      refine pv_putI (pc := 21) dX4_dance_21 fl_X4_35_4 (fun q => by cases q) ⟨rfl, rfl, rfl⟩ hh.1 hh.2.2.1 ?_
      refine pv_aload_0 (pc := 24) dX4_dance_24 ?_
      refine pv_dup (pc := 25) dX4_dance_25 rfl ?_
      refine pv_getI (pc := 26) dX4_dance_26 fg_X4_38_4 rfl hh.1 hh.2.2.1 ?_
      refine pv_aload_1 (pc := 29) dX4_dance_29 ?_
      refine pv_getI (pc := 30) dX4_dance_30 fg_X4_51_3 rfl (by omega) hfs ?_
      refine pv_iadd (pc := 33) dX4_dance_33 ?_
      refine pv_putI (pc := 34) dX4_dance_34 fl_X4_38_4 (fun q => by cases q) ⟨rfl, rfl, rfl⟩ hh.1 hh.2.2.1 ?_
      refine pv_iconst (pc := 37) (v := 1) dX4_dance_37 (by decide) ?_
      refine pv_iret (pc := 38) dX4_dance_38 rfl rfl ?_
      have o3 : I x 3 = cs := (hf.1 x 3 (by have := hh.2.1; omega) (by have := hh.2.1; omega)).trans fx8
      have g : XHw h n (st + 1) (sp + cs) sd (f_P 0 a p q) (f_Q 0 a p q) (f_C 0 a c) (pv_u (pv_u I h 4 (I h 4 + 1)) h 5 (I h 5 + I x 3)) L := by
        obtain ⟨y1, y2, y3, y4, y5, y6, y7⟩ := e2
        refine ⟨y1, y2, ?_, ?_, ?_, ?_, fun j hj => ?_⟩
        · rw [pv_u_o _ (by omega), pv_u_o _ (by omega)]; exact y3
        · rw [pv_u_o _ (by omega), pv_u_eq, if_pos rfl, y4]
        · rw [pv_u_eq, if_pos rfl, y5, o3]
        · rw [pv_u_o _ (by omega), pv_u_o _ (by omega)]; exact y6
        · rw [pv_u_o _ (by omega), pv_u_o _ (by omega)]; exact y7 j hj
      have q1 : pv_u I h 4 (I h 4 + 1) h 5 = I h 5 := pv_u_o _ (by omega)
      have q2 : pv_u I h 4 (I h 4 + 1) x 3 = I x 3 := pv_u_o _ (by have := hh.2.1; omega)
      rw [q1, q2]
      exact ⟨rfl, rfl, (hf.uI _ _ _ (Or.inl rfl)).uI _ _ _ (Or.inl rfl), Or.inl ⟨e1, rfl, g⟩⟩
    · skip
      refine pv_if_ne (pc := 9) (tgt := 14) dX4_dance_9 (by decide) (fun q => absurd q (by decide)) (fun _ => ?_)
      refine pv_iconst (pc := 12) (v := 0) dX4_dance_12 (by decide) ?_
      refine pv_iret (pc := 13) dX4_dance_13 rfl rfl ?_
      exact ⟨rfl, rfl, hf, Or.inr ⟨e1, rfl, rfl, rfl⟩⟩
  · have hfs : t.1 x = some (.inr 1) := by rw [fx4, hfc]
    subst kk
    refine pv_aload_1 (pc := 0) dX4_dance_0 ?_
    refine pv_ifnull (pc := 1) dX4_dance_1 ?_
    refine pv_aload_1 (pc := 4) dX4_dance_4 ?_
    refine pv_aload_0 (pc := 5) dX4_dance_5 ?_
    refine pv_callUq (pc := 6) dX4_dance_6 mgX1_move lu_X4_45_1 (by omega) hfs (by omega) (c_mv1 (by omega) hfs hh hx (by omega)) rfl rfl (by decide) (fun v t I L Rf hq => ?_)
    obtain ⟨rfl, rfl, hf, ho⟩ := hq
    rw [fx7] at ho
    rcases ho with ⟨e1, rfl, e2⟩ | ⟨e1, rfl, rfl, rfl⟩
    · skip
      refine pv_if_ne (pc := 9) (tgt := 14) dX4_dance_9 (by decide) (fun _ => ?_) (fun q => absurd q (by decide))
      refine pv_aload_0 (pc := 14) dX4_dance_14 ?_
      refine pv_dup (pc := 15) dX4_dance_15 rfl ?_
      refine pv_getI (pc := 16) dX4_dance_16 fg_X4_35_4 rfl hh.1 hh.2.2.1 ?_
      refine pv_iconst (pc := 19) (v := 1) dX4_dance_19 (by decide) ?_
      refine pv_iadd (pc := 20) dX4_dance_20 ?_
      refine pv_putI (pc := 21) dX4_dance_21 fl_X4_35_4 (fun q => by cases q) ⟨rfl, rfl, rfl⟩ hh.1 hh.2.2.1 ?_
      refine pv_aload_0 (pc := 24) dX4_dance_24 ?_
      refine pv_dup (pc := 25) dX4_dance_25 rfl ?_
      refine pv_getI (pc := 26) dX4_dance_26 fg_X4_38_4 rfl hh.1 hh.2.2.1 ?_
      refine pv_aload_1 (pc := 29) dX4_dance_29 ?_
      refine pv_getI (pc := 30) dX4_dance_30 fg_X4_51_1 rfl (by omega) hfs ?_
      refine pv_iadd (pc := 33) dX4_dance_33 ?_
      refine pv_putI (pc := 34) dX4_dance_34 fl_X4_38_4 (fun q => by cases q) ⟨rfl, rfl, rfl⟩ hh.1 hh.2.2.1 ?_
      refine pv_iconst (pc := 37) (v := 1) dX4_dance_37 (by decide) ?_
      refine pv_iret (pc := 38) dX4_dance_38 rfl rfl ?_
      have o3 : I x 3 = cs := (hf.1 x 3 (by have := hh.2.1; omega) (by have := hh.2.1; omega)).trans fx8
      have g : XHw h n (st + 1) (sp + cs) sd (f_P 1 a p q) (f_Q 1 a p q) (f_C 1 a c) (pv_u (pv_u I h 4 (I h 4 + 1)) h 5 (I h 5 + I x 3)) L := by
        obtain ⟨y1, y2, y3, y4, y5, y6, y7⟩ := e2
        refine ⟨y1, y2, ?_, ?_, ?_, ?_, fun j hj => ?_⟩
        · rw [pv_u_o _ (by omega), pv_u_o _ (by omega)]; exact y3
        · rw [pv_u_o _ (by omega), pv_u_eq, if_pos rfl, y4]
        · rw [pv_u_eq, if_pos rfl, y5, o3]
        · rw [pv_u_o _ (by omega), pv_u_o _ (by omega)]; exact y6
        · rw [pv_u_o _ (by omega), pv_u_o _ (by omega)]; exact y7 j hj
      have q1 : pv_u I h 4 (I h 4 + 1) h 5 = I h 5 := pv_u_o _ (by omega)
      have q2 : pv_u I h 4 (I h 4 + 1) x 3 = I x 3 := pv_u_o _ (by have := hh.2.1; omega)
      rw [q1, q2]
      exact ⟨rfl, rfl, (hf.uI _ _ _ (Or.inl rfl)).uI _ _ _ (Or.inl rfl), Or.inl ⟨e1, rfl, g⟩⟩
    · skip
      refine pv_if_ne (pc := 9) (tgt := 14) dX4_dance_9 (by decide) (fun q => absurd q (by decide)) (fun _ => ?_)
      refine pv_iconst (pc := 12) (v := 0) dX4_dance_12 (by decide) ?_
      refine pv_iret (pc := 13) dX4_dance_13 rfl rfl ?_
      exact ⟨rfl, rfl, hf, Or.inr ⟨e1, rfl, rfl, rfl⟩⟩
  · have hfs : t.1 x = some (.inr 10) := by rw [fx4, hfc]
    subst kk
    refine pv_aload_1 (pc := 0) dX4_dance_0 ?_
    refine pv_ifnull (pc := 1) dX4_dance_1 ?_
    refine pv_aload_1 (pc := 4) dX4_dance_4 ?_
    refine pv_aload_0 (pc := 5) dX4_dance_5 ?_
    refine pv_callUq (pc := 6) dX4_dance_6 mgX1_move lu_X4_45_10 (by omega) hfs (by omega) (c_mv2 (by omega) hfs hh hx (by omega)) rfl rfl (by decide) (fun v t I L Rf hq => ?_)
    obtain ⟨rfl, rfl, hf, ho⟩ := hq
    rw [fx7] at ho
    rcases ho with ⟨e1, rfl, e2⟩ | ⟨e1, rfl, rfl, rfl⟩
    · skip
      refine pv_if_ne (pc := 9) (tgt := 14) dX4_dance_9 (by decide) (fun _ => ?_) (fun q => absurd q (by decide))
      refine pv_aload_0 (pc := 14) dX4_dance_14 ?_
      refine pv_dup (pc := 15) dX4_dance_15 rfl ?_
      refine pv_getI (pc := 16) dX4_dance_16 fg_X4_35_4 rfl hh.1 hh.2.2.1 ?_
      refine pv_iconst (pc := 19) (v := 1) dX4_dance_19 (by decide) ?_
      refine pv_iadd (pc := 20) dX4_dance_20 ?_
      refine pv_putI (pc := 21) dX4_dance_21 fl_X4_35_4 (fun q => by cases q) ⟨rfl, rfl, rfl⟩ hh.1 hh.2.2.1 ?_
      refine pv_aload_0 (pc := 24) dX4_dance_24 ?_
      refine pv_dup (pc := 25) dX4_dance_25 rfl ?_
      refine pv_getI (pc := 26) dX4_dance_26 fg_X4_38_4 rfl hh.1 hh.2.2.1 ?_
      refine pv_aload_1 (pc := 29) dX4_dance_29 ?_
      refine pv_getI (pc := 30) dX4_dance_30 fg_X4_51_10 rfl (by omega) hfs ?_
      refine pv_iadd (pc := 33) dX4_dance_33 ?_
      refine pv_putI (pc := 34) dX4_dance_34 fl_X4_38_4 (fun q => by cases q) ⟨rfl, rfl, rfl⟩ hh.1 hh.2.2.1 ?_
      refine pv_iconst (pc := 37) (v := 1) dX4_dance_37 (by decide) ?_
      refine pv_iret (pc := 38) dX4_dance_38 rfl rfl ?_
      have o3 : I x 3 = cs := (hf.1 x 3 (by have := hh.2.1; omega) (by have := hh.2.1; omega)).trans fx8
      have g : XHw h n (st + 1) (sp + cs) sd (f_P 2 a p q) (f_Q 2 a p q) (f_C 2 a c) (pv_u (pv_u I h 4 (I h 4 + 1)) h 5 (I h 5 + I x 3)) L := by
        obtain ⟨y1, y2, y3, y4, y5, y6, y7⟩ := e2
        refine ⟨y1, y2, ?_, ?_, ?_, ?_, fun j hj => ?_⟩
        · rw [pv_u_o _ (by omega), pv_u_o _ (by omega)]; exact y3
        · rw [pv_u_o _ (by omega), pv_u_eq, if_pos rfl, y4]
        · rw [pv_u_eq, if_pos rfl, y5, o3]
        · rw [pv_u_o _ (by omega), pv_u_o _ (by omega)]; exact y6
        · rw [pv_u_o _ (by omega), pv_u_o _ (by omega)]; exact y7 j hj
      have q1 : pv_u I h 4 (I h 4 + 1) h 5 = I h 5 := pv_u_o _ (by omega)
      have q2 : pv_u I h 4 (I h 4 + 1) x 3 = I x 3 := pv_u_o _ (by have := hh.2.1; omega)
      rw [q1, q2]
      exact ⟨rfl, rfl, (hf.uI _ _ _ (Or.inl rfl)).uI _ _ _ (Or.inl rfl), Or.inl ⟨e1, rfl, g⟩⟩
    · skip
      refine pv_if_ne (pc := 9) (tgt := 14) dX4_dance_9 (by decide) (fun q => absurd q (by decide)) (fun _ => ?_)
      refine pv_iconst (pc := 12) (v := 0) dX4_dance_12 (by decide) ?_
      refine pv_iret (pc := 13) dX4_dance_13 rfl rfl ?_
      exact ⟨rfl, rfl, hf, Or.inr ⟨e1, rfl, rfl, rfl⟩⟩
  · have hfs : t.1 x = some (.inr 5) := by rw [fx4, hfc]
    subst kk
    refine pv_aload_1 (pc := 0) dX4_dance_0 ?_
    refine pv_ifnull (pc := 1) dX4_dance_1 ?_
    refine pv_aload_1 (pc := 4) dX4_dance_4 ?_
    refine pv_aload_0 (pc := 5) dX4_dance_5 ?_
    refine pv_callUq (pc := 6) dX4_dance_6 mgX1_move lu_X4_45_5 (by omega) hfs (by omega) (c_mv3 (by omega) hfs hh hx (by omega)) rfl rfl (by decide) (fun v t I L Rf hq => ?_)
    obtain ⟨rfl, rfl, hf, ho⟩ := hq
    rw [fx7] at ho
    rcases ho with ⟨e1, rfl, e2⟩ | ⟨e1, rfl, rfl, rfl⟩
    · skip
      refine pv_if_ne (pc := 9) (tgt := 14) dX4_dance_9 (by decide) (fun _ => ?_) (fun q => absurd q (by decide))
      refine pv_aload_0 (pc := 14) dX4_dance_14 ?_
      refine pv_dup (pc := 15) dX4_dance_15 rfl ?_
      refine pv_getI (pc := 16) dX4_dance_16 fg_X4_35_4 rfl hh.1 hh.2.2.1 ?_
      refine pv_iconst (pc := 19) (v := 1) dX4_dance_19 (by decide) ?_
      refine pv_iadd (pc := 20) dX4_dance_20 ?_
      refine pv_putI (pc := 21) dX4_dance_21 fl_X4_35_4 (fun q => by cases q) ⟨rfl, rfl, rfl⟩ hh.1 hh.2.2.1 ?_
      refine pv_aload_0 (pc := 24) dX4_dance_24 ?_
      refine pv_dup (pc := 25) dX4_dance_25 rfl ?_
      refine pv_getI (pc := 26) dX4_dance_26 fg_X4_38_4 rfl hh.1 hh.2.2.1 ?_
      refine pv_aload_1 (pc := 29) dX4_dance_29 ?_
      refine pv_getI (pc := 30) dX4_dance_30 fg_X4_51_5 rfl (by omega) hfs ?_
      refine pv_iadd (pc := 33) dX4_dance_33 ?_
      refine pv_putI (pc := 34) dX4_dance_34 fl_X4_38_4 (fun q => by cases q) ⟨rfl, rfl, rfl⟩ hh.1 hh.2.2.1 ?_
      refine pv_iconst (pc := 37) (v := 1) dX4_dance_37 (by decide) ?_
      refine pv_iret (pc := 38) dX4_dance_38 rfl rfl ?_
      have o3 : I x 3 = cs := (hf.1 x 3 (by have := hh.2.1; omega) (by have := hh.2.1; omega)).trans fx8
      have g : XHw h n (st + 1) (sp + cs) sd (f_P 3 a p q) (f_Q 3 a p q) (f_C 3 a c) (pv_u (pv_u I h 4 (I h 4 + 1)) h 5 (I h 5 + I x 3)) L := by
        obtain ⟨y1, y2, y3, y4, y5, y6, y7⟩ := e2
        refine ⟨y1, y2, ?_, ?_, ?_, ?_, fun j hj => ?_⟩
        · rw [pv_u_o _ (by omega), pv_u_o _ (by omega)]; exact y3
        · rw [pv_u_o _ (by omega), pv_u_eq, if_pos rfl, y4]
        · rw [pv_u_eq, if_pos rfl, y5, o3]
        · rw [pv_u_o _ (by omega), pv_u_o _ (by omega)]; exact y6
        · rw [pv_u_o _ (by omega), pv_u_o _ (by omega)]; exact y7 j hj
      have q1 : pv_u I h 4 (I h 4 + 1) h 5 = I h 5 := pv_u_o _ (by omega)
      have q2 : pv_u I h 4 (I h 4 + 1) x 3 = I x 3 := pv_u_o _ (by have := hh.2.1; omega)
      rw [q1, q2]
      exact ⟨rfl, rfl, (hf.uI _ _ _ (Or.inl rfl)).uI _ _ _ (Or.inl rfl), Or.inl ⟨e1, rfl, g⟩⟩
    · skip
      refine pv_if_ne (pc := 9) (tgt := 14) dX4_dance_9 (by decide) (fun q => absurd q (by decide)) (fun _ => ?_)
      refine pv_iconst (pc := 12) (v := 0) dX4_dance_12 (by decide) ?_
      refine pv_iret (pc := 13) dX4_dance_13 rfl rfl ?_
      exact ⟨rfl, rfl, hf, Or.inr ⟨e1, rfl, rfl, rfl⟩⟩
  · have hfs : t.1 x = some (.inr 9) := by rw [fx4, hfc]
    subst kk
    refine pv_aload_1 (pc := 0) dX4_dance_0 ?_
    refine pv_ifnull (pc := 1) dX4_dance_1 ?_
    refine pv_aload_1 (pc := 4) dX4_dance_4 ?_
    refine pv_aload_0 (pc := 5) dX4_dance_5 ?_
    refine pv_callUq (pc := 6) dX4_dance_6 mgX9_move lu_X4_45_9 (by omega) hfs (by omega) (c_mv4 (by omega) hfs hh hx (by omega)) rfl rfl (by decide) (fun v t I L Rf hq => ?_)
    obtain ⟨rfl, rfl, hf, ho⟩ := hq
    rw [fx7] at ho
    rcases ho with ⟨e1, rfl, e2⟩ | ⟨e1, rfl, rfl, rfl⟩
    · skip
      refine pv_if_ne (pc := 9) (tgt := 14) dX4_dance_9 (by decide) (fun _ => ?_) (fun q => absurd q (by decide))
      refine pv_aload_0 (pc := 14) dX4_dance_14 ?_
      refine pv_dup (pc := 15) dX4_dance_15 rfl ?_
      refine pv_getI (pc := 16) dX4_dance_16 fg_X4_35_4 rfl hh.1 hh.2.2.1 ?_
      refine pv_iconst (pc := 19) (v := 1) dX4_dance_19 (by decide) ?_
      refine pv_iadd (pc := 20) dX4_dance_20 ?_
      refine pv_putI (pc := 21) dX4_dance_21 fl_X4_35_4 (fun q => by cases q) ⟨rfl, rfl, rfl⟩ hh.1 hh.2.2.1 ?_
      refine pv_aload_0 (pc := 24) dX4_dance_24 ?_
      refine pv_dup (pc := 25) dX4_dance_25 rfl ?_
      refine pv_getI (pc := 26) dX4_dance_26 fg_X4_38_4 rfl hh.1 hh.2.2.1 ?_
      refine pv_aload_1 (pc := 29) dX4_dance_29 ?_
      refine pv_getI (pc := 30) dX4_dance_30 fg_X4_51_9 rfl (by omega) hfs ?_
      refine pv_iadd (pc := 33) dX4_dance_33 ?_
      refine pv_putI (pc := 34) dX4_dance_34 fl_X4_38_4 (fun q => by cases q) ⟨rfl, rfl, rfl⟩ hh.1 hh.2.2.1 ?_
      refine pv_iconst (pc := 37) (v := 1) dX4_dance_37 (by decide) ?_
      refine pv_iret (pc := 38) dX4_dance_38 rfl rfl ?_
      have o3 : I x 3 = cs := (hf.1 x 3 (by have := hh.2.1; omega) (by have := hh.2.1; omega)).trans fx8
      have g : XHw h n (st + 1) (sp + cs) sd (f_P 4 a p q) (f_Q 4 a p q) (f_C 4 a c) (pv_u (pv_u I h 4 (I h 4 + 1)) h 5 (I h 5 + I x 3)) L := by
        obtain ⟨y1, y2, y3, y4, y5, y6, y7⟩ := e2
        refine ⟨y1, y2, ?_, ?_, ?_, ?_, fun j hj => ?_⟩
        · rw [pv_u_o _ (by omega), pv_u_o _ (by omega)]; exact y3
        · rw [pv_u_o _ (by omega), pv_u_eq, if_pos rfl, y4]
        · rw [pv_u_eq, if_pos rfl, y5, o3]
        · rw [pv_u_o _ (by omega), pv_u_o _ (by omega)]; exact y6
        · rw [pv_u_o _ (by omega), pv_u_o _ (by omega)]; exact y7 j hj
      have q1 : pv_u I h 4 (I h 4 + 1) h 5 = I h 5 := pv_u_o _ (by omega)
      have q2 : pv_u I h 4 (I h 4 + 1) x 3 = I x 3 := pv_u_o _ (by have := hh.2.1; omega)
      rw [q1, q2]
      exact ⟨rfl, rfl, (hf.uI _ _ _ (Or.inl rfl)).uI _ _ _ (Or.inl rfl), Or.inl ⟨e1, rfl, g⟩⟩
    · skip
      refine pv_if_ne (pc := 9) (tgt := 14) dX4_dance_9 (by decide) (fun q => absurd q (by decide)) (fun _ => ?_)
      refine pv_iconst (pc := 12) (v := 0) dX4_dance_12 (by decide) ?_
      refine pv_iret (pc := 13) dX4_dance_13 rfl rfl ?_
      exact ⟨rfl, rfl, hf, Or.inr ⟨e1, rfl, rfl, rfl⟩⟩
  · have hfs : t.1 x = some (.inr 0) := by rw [fx4, hfc]
    subst kk
    refine pv_aload_1 (pc := 0) dX4_dance_0 ?_
    refine pv_ifnull (pc := 1) dX4_dance_1 ?_
    refine pv_aload_1 (pc := 4) dX4_dance_4 ?_
    refine pv_aload_0 (pc := 5) dX4_dance_5 ?_
    refine pv_callUq (pc := 6) dX4_dance_6 mgX9_move lu_X4_45_0 (by omega) hfs (by omega) (c_mv5 (by omega) hfs hh hx (by omega)) rfl rfl (by decide) (fun v t I L Rf hq => ?_)
    obtain ⟨rfl, rfl, hf, ho⟩ := hq
    rw [fx7] at ho
    rcases ho with ⟨e1, rfl, e2⟩ | ⟨e1, rfl, rfl, rfl⟩
    · skip
      refine pv_if_ne (pc := 9) (tgt := 14) dX4_dance_9 (by decide) (fun _ => ?_) (fun q => absurd q (by decide))
      refine pv_aload_0 (pc := 14) dX4_dance_14 ?_
      refine pv_dup (pc := 15) dX4_dance_15 rfl ?_
      refine pv_getI (pc := 16) dX4_dance_16 fg_X4_35_4 rfl hh.1 hh.2.2.1 ?_
      refine pv_iconst (pc := 19) (v := 1) dX4_dance_19 (by decide) ?_
      refine pv_iadd (pc := 20) dX4_dance_20 ?_
      refine pv_putI (pc := 21) dX4_dance_21 fl_X4_35_4 (fun q => by cases q) ⟨rfl, rfl, rfl⟩ hh.1 hh.2.2.1 ?_
      refine pv_aload_0 (pc := 24) dX4_dance_24 ?_
      refine pv_dup (pc := 25) dX4_dance_25 rfl ?_
      refine pv_getI (pc := 26) dX4_dance_26 fg_X4_38_4 rfl hh.1 hh.2.2.1 ?_
      refine pv_aload_1 (pc := 29) dX4_dance_29 ?_
      refine pv_getI (pc := 30) dX4_dance_30 fg_X4_51_0 rfl (by omega) hfs ?_
      refine pv_iadd (pc := 33) dX4_dance_33 ?_
      refine pv_putI (pc := 34) dX4_dance_34 fl_X4_38_4 (fun q => by cases q) ⟨rfl, rfl, rfl⟩ hh.1 hh.2.2.1 ?_
      refine pv_iconst (pc := 37) (v := 1) dX4_dance_37 (by decide) ?_
      refine pv_iret (pc := 38) dX4_dance_38 rfl rfl ?_
      have o3 : I x 3 = cs := (hf.1 x 3 (by have := hh.2.1; omega) (by have := hh.2.1; omega)).trans fx8
      have g : XHw h n (st + 1) (sp + cs) sd (f_P 5 a p q) (f_Q 5 a p q) (f_C 5 a c) (pv_u (pv_u I h 4 (I h 4 + 1)) h 5 (I h 5 + I x 3)) L := by
        obtain ⟨y1, y2, y3, y4, y5, y6, y7⟩ := e2
        refine ⟨y1, y2, ?_, ?_, ?_, ?_, fun j hj => ?_⟩
        · rw [pv_u_o _ (by omega), pv_u_o _ (by omega)]; exact y3
        · rw [pv_u_o _ (by omega), pv_u_eq, if_pos rfl, y4]
        · rw [pv_u_eq, if_pos rfl, y5, o3]
        · rw [pv_u_o _ (by omega), pv_u_o _ (by omega)]; exact y6
        · rw [pv_u_o _ (by omega), pv_u_o _ (by omega)]; exact y7 j hj
      have q1 : pv_u I h 4 (I h 4 + 1) h 5 = I h 5 := pv_u_o _ (by omega)
      have q2 : pv_u I h 4 (I h 4 + 1) x 3 = I x 3 := pv_u_o _ (by have := hh.2.1; omega)
      rw [q1, q2]
      exact ⟨rfl, rfl, (hf.uI _ _ _ (Or.inl rfl)).uI _ _ _ (Or.inl rfl), Or.inl ⟨e1, rfl, g⟩⟩
    · skip
      refine pv_if_ne (pc := 9) (tgt := 14) dX4_dance_9 (by decide) (fun q => absurd q (by decide)) (fun _ => ?_)
      refine pv_iconst (pc := 12) (v := 0) dX4_dance_12 (by decide) ?_
      refine pv_iret (pc := 13) dX4_dance_13 rfl rfl ?_
      exact ⟨rfl, rfl, hf, Or.inr ⟨e1, rfl, rfl, rfl⟩⟩
  · have hfs : t.1 x = some (.inr 6) := by rw [fx4, hfc]
    subst kk
    refine pv_aload_1 (pc := 0) dX4_dance_0 ?_
    refine pv_ifnull (pc := 1) dX4_dance_1 ?_
    refine pv_aload_1 (pc := 4) dX4_dance_4 ?_
    refine pv_aload_0 (pc := 5) dX4_dance_5 ?_
    refine pv_callUq (pc := 6) dX4_dance_6 mgX9_move lu_X4_45_6 (by omega) hfs (by omega) (c_mv6 (by omega) hfs hh hx (by omega) (by rw [fx7]; exact ha.1)) rfl rfl (by decide) (fun v t I L Rf hq => ?_)
    obtain ⟨rfl, rfl, hf, ho⟩ := hq
    rw [fx7] at ho
    rcases ho with ⟨e1, rfl, e2⟩ | ⟨e1, rfl, rfl, rfl⟩
    · skip
      refine pv_if_ne (pc := 9) (tgt := 14) dX4_dance_9 (by decide) (fun _ => ?_) (fun q => absurd q (by decide))
      refine pv_aload_0 (pc := 14) dX4_dance_14 ?_
      refine pv_dup (pc := 15) dX4_dance_15 rfl ?_
      refine pv_getI (pc := 16) dX4_dance_16 fg_X4_35_4 rfl hh.1 hh.2.2.1 ?_
      refine pv_iconst (pc := 19) (v := 1) dX4_dance_19 (by decide) ?_
      refine pv_iadd (pc := 20) dX4_dance_20 ?_
      refine pv_putI (pc := 21) dX4_dance_21 fl_X4_35_4 (fun q => by cases q) ⟨rfl, rfl, rfl⟩ hh.1 hh.2.2.1 ?_
      refine pv_aload_0 (pc := 24) dX4_dance_24 ?_
      refine pv_dup (pc := 25) dX4_dance_25 rfl ?_
      refine pv_getI (pc := 26) dX4_dance_26 fg_X4_38_4 rfl hh.1 hh.2.2.1 ?_
      refine pv_aload_1 (pc := 29) dX4_dance_29 ?_
      refine pv_getI (pc := 30) dX4_dance_30 fg_X4_51_6 rfl (by omega) hfs ?_
      refine pv_iadd (pc := 33) dX4_dance_33 ?_
      refine pv_putI (pc := 34) dX4_dance_34 fl_X4_38_4 (fun q => by cases q) ⟨rfl, rfl, rfl⟩ hh.1 hh.2.2.1 ?_
      refine pv_iconst (pc := 37) (v := 1) dX4_dance_37 (by decide) ?_
      refine pv_iret (pc := 38) dX4_dance_38 rfl rfl ?_
      have o3 : I x 3 = cs := (hf.1 x 3 (by have := hh.2.1; omega) (by have := hh.2.1; omega)).trans fx8
      have g : XHw h n (st + 1) (sp + cs) sd (f_P 6 a p q) (f_Q 6 a p q) (f_C 6 a c) (pv_u (pv_u I h 4 (I h 4 + 1)) h 5 (I h 5 + I x 3)) L := by
        obtain ⟨y1, y2, y3, y4, y5, y6, y7⟩ := e2
        refine ⟨y1, y2, ?_, ?_, ?_, ?_, fun j hj => ?_⟩
        · rw [pv_u_o _ (by omega), pv_u_o _ (by omega)]; exact y3
        · rw [pv_u_o _ (by omega), pv_u_eq, if_pos rfl, y4]
        · rw [pv_u_eq, if_pos rfl, y5, o3]
        · rw [pv_u_o _ (by omega), pv_u_o _ (by omega)]; exact y6
        · rw [pv_u_o _ (by omega), pv_u_o _ (by omega)]; exact y7 j hj
      have q1 : pv_u I h 4 (I h 4 + 1) h 5 = I h 5 := pv_u_o _ (by omega)
      have q2 : pv_u I h 4 (I h 4 + 1) x 3 = I x 3 := pv_u_o _ (by have := hh.2.1; omega)
      rw [q1, q2]
      exact ⟨rfl, rfl, (hf.uI _ _ _ (Or.inl rfl)).uI _ _ _ (Or.inl rfl), Or.inl ⟨e1, rfl, g⟩⟩
    · skip
      refine pv_if_ne (pc := 9) (tgt := 14) dX4_dance_9 (by decide) (fun q => absurd q (by decide)) (fun _ => ?_)
      refine pv_iconst (pc := 12) (v := 0) dX4_dance_12 (by decide) ?_
      refine pv_iret (pc := 13) dX4_dance_13 rfl rfl ?_
      exact ⟨rfl, rfl, hf, Or.inr ⟨e1, rfl, rfl, rfl⟩⟩

