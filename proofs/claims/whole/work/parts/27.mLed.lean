/-! the hall in thought: base memory I L, then m_at I c and m_pq L p q -/
theorem m_at_cg {I : pv_I} {c c1 : Nat → Int32} (h : ∀ j, j < 4 → c j = c1 j) : m_at I c = m_at I c1 := by
  unfold m_at; rw [h 0 (by decide), h 1 (by decide), h 2 (by decide), h 3 (by decide)]
theorem m_at_73 (I : pv_I) (c : Nat → Int32) (j : Nat) (h : j < 4) : m_at I c 73 j = c j := by rw [m_at_app, if_pos ⟨rfl, h⟩]
theorem m_at_u (I : pv_I) (c : Nat → Int32) (a j : Nat) (v : Int32) (ha : a ≠ 73) : pv_u (m_at I c) a j v = m_at (pv_u I a j v) c := by
  funext x y
  rw [pv_u_app, m_at_app, m_at_app, pv_u_app]
  by_cases h : x = a ∧ y = j
  · rw [if_pos h, if_neg (by omega), if_pos h]
  · rw [if_neg h, if_neg h]
theorem h_sw_cg {k : Int32} {c c1 : Nat → Int32} (h : ∀ j, j < 4 → c j = c1 j) : ∀ j, j < 4 → h_sw k c j = h_sw k c1 j := by
  intro j hj
  unfold h_sw
  split
  · exact h j hj
  · simp only [h 1 (by decide), h 2 (by decide), h j hj]
theorem h_on_cg {k : Nat} {c c1 : Nat → Int32} (h : ∀ j, j < 4 → c j = c1 j) : ∀ j, j < 4 → h_on k c j = h_on k c1 j := fun j _ => h _ (Nat.mod_lt _ (by decide))
theorem f_C_cg {k a : Int32} {c c1 : Nat → Int32} (h : ∀ j, j < 4 → c j = c1 j) : ∀ j, j < 4 → f_C k a c j = f_C k a c1 j := by
  intro j hj
  unfold f_C
  split
  · exact h_sw_cg h j hj
  · split
    · exact h_on_cg h j hj
    · exact h j hj
theorem h_stc_cg {s : Int32} {c c1 : Nat → Int32} (h : ∀ j, j < 4 → c j = c1 j) : ∀ j, j < 4 → h_stc s c j = h_stc s c1 j := by
  intro j hj
  unfold h_stc
  split
  · exact h_on_cg h j hj
  · exact h_sw_cg h j hj
def w_isF (J : pv_I) (f : Int32) : Prop := 0 ≤ f ∧ f < J 0 0
theorem isF0 {J : pv_I} {K : pv_L} {I : pv_I} {L : pv_L} (hM : RM J K I L) {f : Int32} (h : pv_b (decide (0 ≤ f) && decide (f < I 61 0)) = 0) : ¬ w_isF J f := by
  rw [hM.1.1] at h
  rintro ⟨h1, h2⟩
  have := (pv_b_0 _).mp h
  simp only [h1, h2, decide_true, Bool.and_self] at this
  exact absurd this (by decide)
theorem isF1 {J : pv_I} {K : pv_L} {I : pv_I} {L : pv_L} (hM : RM J K I L) {f : Int32} (h : ¬ pv_b (decide (0 ≤ f) && decide (f < I 61 0)) = 0) : w_isF J f := by
  rw [hM.1.1] at h
  have := (pv_b_n0 _).mp h
  simp only [Bool.and_eq_true, decide_eq_true_eq] at this
  exact this
theorem w_isF.nat {J : pv_I} {K : pv_L} (hW : WF J K) {f : Int32} (h : w_isF J f) : vp_in f 8 ∧ (f.toNatClampNeg : Int) < (J 0 0).toInt := by
  have h1 := i_le.mp h.1
  have h2 := i_lt.mp h.2
  rw [Int32.toInt_zero] at h1
  have h3 := i_lit f
  have h4 := hW.1
  exact ⟨pv_in_of h1 (by omega), by omega⟩
theorem n_figured {G : pv_G} {d : Nat} {J : pv_I} {K : pv_L} {f : Int32} {t : pv_T} {I : pv_I} {L : pv_L} {Rf : pv_R} {c : Nat → Int32} {p q : Int64} (hT : sh_ok t) (hR : rf_ok Rf) (hW : WF J K) (hM : RM J K I L) (hf : w_isF J f) (hd : 2 ≤ d) :
    pv_Mt G mX12_figured d 0 0 [.ref 61, .int f] t (m_at I c) (m_pq L p q) Rf (pv_is none t (m_at I (f_C (J 1 f.toNatClampNeg) (J 2 f.toNatClampNeg) c)) (m_pq L (f_P (J 1 f.toNatClampNeg) (J 2 f.toNatClampNeg) p q) (f_Q (J 1 f.toNatClampNeg) (J 2 f.toNatClampNeg) p q)) Rf) := by
  obtain ⟨h8, hn⟩ := hf.nat hW
  have hm := hM.2.1 _ hn
  have hw := hW.2.1 _ hn
  have h := c_X12_figured (G := G) (d := d) (f := f) (t := t) (I := m_at I c) (L := m_pq L p q) (Rf := Rf) hT hR h8 (fun _ => by show 0 ≤ (I 64 f.toNatClampNeg).toInt ∧ (I 64 f.toNatClampNeg).toInt ≤ 9; rw [hm.2.1]; exact hw.2.1) hd
  rw [m_at_at, m_pq_pq] at h
  have e1 : m_at I c 63 f.toNatClampNeg = J 1 f.toNatClampNeg := hm.1
  have e2 : m_at I c 64 f.toNatClampNeg = J 2 f.toNatClampNeg := hm.2.1
  rw [e1, e2, m_at_cg (f_C_cg (fun j hj => m_at_73 I c j hj))] at h
  exact h
theorem n_step {G : pv_G} {d : Nat} {s : Int32} {t : pv_T} {I : pv_I} {L : pv_L} {Rf : pv_R} {c : Nat → Int32} {p q : Int64} (hT : sh_ok t) (hR : rf_ok Rf) (hs : s = 0 ∨ s = 1 ∨ s = 2) (hd : 1 ≤ d) :
    pv_Mt G mX12_step d 0 0 [.ref 61, .int s] t (m_at I c) (m_pq L p q) Rf (pv_is none t (m_at I (h_stc s c)) (m_pq L (s_stepP s p q) (s_stepQ s p q)) Rf) := by
  have h := c_X12_step (G := G) (d := d) (s := s) (t := t) (I := m_at I c) (L := m_pq L p q) (Rf := Rf) hT hR hs hd
  rw [m_at_at, m_pq_pq, m_at_cg (h_stc_cg (fun j hj => m_at_73 I c j hj))] at h
  exact h
theorem n_begins {G : pv_G} {d : Nat} {J : pv_I} {K : pv_L} {t : pv_T} {I : pv_I} {L : pv_L} {Rf : pv_R} (hT : sh_ok t) (hR : rf_ok Rf) (hM : RM J K I L) : pv_Mt G mX12_begins d 0 0 [.ref 61] t I L Rf (pv_is none t (m_at I (J 4)) (m_pq L (K 0 0) (K 0 1)) Rf) := by
  have h := c_X12_begins (G := G) (d := d) (t := t) (I := I) (L := L) (Rf := Rf) hT hR
  rw [m_at_cg (fun j hj => hM.2.2.1 j hj), hM.1.2.2.2.2.2.2.2.1, hM.1.2.2.2.2.2.2.2.2] at h
  exact h
/-- a row of figures, danced in thought: danced?, where it stops, P, Q, who is where, cost -/
abbrev LD : Type := Bool × Int32 × Int64 × Int64 × (Nat → Int32) × Int32
def w_led (J : pv_I) (K : pv_L) (s : Nat) : Nat → Nat → Int32 → Int64 → Int64 → (Nat → Int32) → Int32 → LD
  | 0, _, _, p, q, c, y => (true, -1, p, q, c, y)
  | m + 1, i, _, p, q, c, y =>
    if 0 ≤ (K (1 + s) i).toInt32 ∧ (K (1 + s) i).toInt32 < J 0 0 then
      (if s_room (f_P (J 1 (K (1 + s) i).toInt32.toNatClampNeg) (J 2 (K (1 + s) i).toInt32.toNatClampNeg) p q) (f_Q (J 1 (K (1 + s) i).toInt32.toNatClampNeg) (J 2 (K (1 + s) i).toInt32.toNatClampNeg) p q) = true then
        w_led J K s m (i + 1) (Int32.ofNat i) (f_P (J 1 (K (1 + s) i).toInt32.toNatClampNeg) (J 2 (K (1 + s) i).toInt32.toNatClampNeg) p q) (f_Q (J 1 (K (1 + s) i).toInt32.toNatClampNeg) (J 2 (K (1 + s) i).toInt32.toNatClampNeg) p q) (f_C (J 1 (K (1 + s) i).toInt32.toNatClampNeg) (J 2 (K (1 + s) i).toInt32.toNatClampNeg) c) (y + J 3 (K (1 + s) i).toInt32.toNatClampNeg)
      else (false, Int32.ofNat i, f_P (J 1 (K (1 + s) i).toInt32.toNatClampNeg) (J 2 (K (1 + s) i).toInt32.toNatClampNeg) p q, f_Q (J 1 (K (1 + s) i).toInt32.toNatClampNeg) (J 2 (K (1 + s) i).toInt32.toNatClampNeg) p q, f_C (J 1 (K (1 + s) i).toInt32.toNatClampNeg) (J 2 (K (1 + s) i).toInt32.toNatClampNeg) c, y + J 3 (K (1 + s) i).toInt32.toNatClampNeg))
    else (false, Int32.ofNat i, p, q, c, y)
def m_dn (I : pv_I) (x y : Int32) : pv_I := pv_u (pv_u I 61 32 x) 61 33 y
theorem m_dn_x (I : pv_I) (x y x1 : Int32) : pv_u (m_dn I x y) 61 32 x1 = m_dn I x1 y := by
  funext a j
  simp only [m_dn, pv_u_app]
  by_cases h : a = 61 ∧ j = 32
  · rw [if_pos h, if_neg (by omega), if_pos h]
  · rw [if_neg h, if_neg h, if_neg h]
theorem m_dn_y (I : pv_I) (x y y1 : Int32) : pv_u (m_dn I x y) 61 33 y1 = m_dn I x y1 := by
  funext a j
  simp only [m_dn, pv_u_app]
  by_cases h : a = 61 ∧ j = 33
  · rw [if_pos h, if_pos h]
  · rw [if_neg h, if_neg h, if_neg h]
theorem m_dn_self (I : pv_I) : m_dn I (I 61 32) (I 61 33) = I := by
  funext a j
  simp only [m_dn, pv_u_app]
  by_cases h : a = 61 ∧ j = 33
  · rw [if_pos h, h.1, h.2]
  · rw [if_neg h]
    by_cases h2 : a = 61 ∧ j = 32
    · rw [if_pos h2, h2.1, h2.2]
    · rw [if_neg h2]
theorem m_dn_k (I : pv_I) (L : pv_L) (x y : Int32) : kS I L (m_dn I x y) L := (kS.rf.uI 61 32 x (by decide)).uI 61 33 y (by decide)
def m_ld (I : pv_I) (r : LD) : pv_I := m_at (m_dn I r.2.1 r.2.2.2.2.2) r.2.2.2.2.1
def l_ld (L : pv_L) (r : LD) : pv_L := m_pq L r.2.2.1 r.2.2.2.1

theorem w_led_f {J : pv_I} {K : pv_L} {s m i : Nat} {x y : Int32} {p q : Int64} {c : Nat → Int32} (hF : w_isF J (K (1 + s) i).toInt32) (hr : s_room (f_P (J 1 (K (1 + s) i).toInt32.toNatClampNeg) (J 2 (K (1 + s) i).toInt32.toNatClampNeg) p q) (f_Q (J 1 (K (1 + s) i).toInt32.toNatClampNeg) (J 2 (K (1 + s) i).toInt32.toNatClampNeg) p q) = false) :
    w_led J K s (m + 1) i x p q c y = (false, Int32.ofNat i, f_P (J 1 (K (1 + s) i).toInt32.toNatClampNeg) (J 2 (K (1 + s) i).toInt32.toNatClampNeg) p q, f_Q (J 1 (K (1 + s) i).toInt32.toNatClampNeg) (J 2 (K (1 + s) i).toInt32.toNatClampNeg) p q, f_C (J 1 (K (1 + s) i).toInt32.toNatClampNeg) (J 2 (K (1 + s) i).toInt32.toNatClampNeg) c, y + J 3 (K (1 + s) i).toInt32.toNatClampNeg) := by
  unfold w_isF at hF; rw [w_led, if_pos hF, if_neg (by rw [hr]; decide)]
theorem w_led_s {J : pv_I} {K : pv_L} {s m i : Nat} {x y : Int32} {p q : Int64} {c : Nat → Int32} (hF : w_isF J (K (1 + s) i).toInt32) (hr : s_room (f_P (J 1 (K (1 + s) i).toInt32.toNatClampNeg) (J 2 (K (1 + s) i).toInt32.toNatClampNeg) p q) (f_Q (J 1 (K (1 + s) i).toInt32.toNatClampNeg) (J 2 (K (1 + s) i).toInt32.toNatClampNeg) p q) = true) :
    w_led J K s (m + 1) i x p q c y = w_led J K s m (i + 1) (Int32.ofNat i) (f_P (J 1 (K (1 + s) i).toInt32.toNatClampNeg) (J 2 (K (1 + s) i).toInt32.toNatClampNeg) p q) (f_Q (J 1 (K (1 + s) i).toInt32.toNatClampNeg) (J 2 (K (1 + s) i).toInt32.toNatClampNeg) p q) (f_C (J 1 (K (1 + s) i).toInt32.toNatClampNeg) (J 2 (K (1 + s) i).toInt32.toNatClampNeg) c) (y + J 3 (K (1 + s) i).toInt32.toNatClampNeg) := by
  unfold w_isF at hF; rw [w_led, if_pos hF, if_pos hr]
theorem pv_memI {G : pv_G} {M : pv_Mth} {d mc ms bc bs pc : Nat} {Q : pv_Q} {ls st : List Value} {t : pv_T} {I I1 : pv_I} {L : pv_L} {Rf : pv_R} (h : I1 = I) (k : pv_V G M d mc ms Q bc bs pc ls st t I L Rf) : pv_V G M d mc ms Q bc bs pc ls st t I1 L Rf := h ▸ k
theorem pv_memL {G : pv_G} {M : pv_Mth} {d mc ms bc bs pc : Nat} {Q : pv_Q} {ls st : List Value} {t : pv_T} {I : pv_I} {L L1 : pv_L} {Rf : pv_R} (h : L1 = L) (k : pv_V G M d mc ms Q bc bs pc ls st t I L Rf) : pv_V G M d mc ms Q bc bs pc ls st t I L1 Rf := h ▸ k

set_option maxRecDepth 100000 in
set_option maxHeartbeats 4000000 in
theorem l_led {G : pv_G} {d : Nat} {J : pv_I} {K : pv_L} {s n : Int32} {t : pv_T} {I : pv_I} {L : pv_L} {Rf : pv_R} (hT : sh_ok t) (hR : rf_ok Rf) (hW : WF J K) (hM : RM J K I L) (hs : vp_in s 8) (h0 : 0 ≤ n.toInt) (hn : n.toInt ≤ 160) (hd : 3 ≤ d) : ∀ (m i : Nat) (x : Int32) (p q : Int64) (c : Nat → Int32) (y : Int32) (l4 : Value), i + m = n.toNatClampNeg →
    pv_V G mX12_led d 0 0 (pv_is (some (.int (pv_b (w_led J K s.toNatClampNeg m i x p q c y).1))) t (m_ld I (w_led J K s.toNatClampNeg m i x p q c y)) (l_ld L (w_led J K s.toNatClampNeg m i x p q c y)) Rf) 0 0 2 [.ref 61, .int s, .int n, .int (Int32.ofNat i), l4] [] t (m_at (m_dn I x y) c) (m_pq L p q) Rf := by
  intro m
  induction m with
  | zero =>
    intro i x p q c y l4 hk
    have hnl := i_lit n
    refine pv_iload_3 (pc := 2) dX12_led_2 ?_
    refine pv_iload_2 (pc := 3) dX12_led_3 ?_
    refine pv_icmp_ge (pc := 4) (tgt := 68) dX12_led_4 (by decide) (fun h4 => ?_) (fun h4 => absurd h4 (by rw [i_lt, i_of (by omega)]; omega))
    refine pv_aload_0 (pc := 68) dX12_led_68 ?_
    refine pv_iconst (pc := 69) (v := (-1)) dX12_led_69 (by decide) ?_
    refine pv_putI (pc := 70) dX12_led_70 fl_X12_245_12 (fun q => by cases q) ⟨rfl, rfl, rfl⟩ (by decide) (sx_61 hT) ?_
    refine pv_iconst (pc := 73) (v := 1) dX12_led_73 (by decide) ?_
    refine pv_iret (pc := 74) dX12_led_74 rfl rfl ?_
    rw [m_at_u _ _ _ _ _ (by decide), m_dn_x]
    exact ⟨rfl, rfl, rfl, rfl, rfl⟩
  | succ m ih =>
    intro i x p q c y l4 hk
    have hnl := i_lit n
    refine pv_iload_3 (pc := 2) dX12_led_2 ?_
    refine pv_iload_2 (pc := 3) dX12_led_3 ?_
    refine pv_icmp_ge (pc := 4) (tgt := 68) dX12_led_4 (by decide) (fun h4 => absurd h4 (by rw [i_lt, i_of (by omega)]; omega)) (fun h4 => ?_)
    refine pv_aload_0 (pc := 7) dX12_led_7 ?_
    refine pv_iload_1 (pc := 8) dX12_led_8 ?_
    refine pv_iload_3 (pc := 9) dX12_led_9 ?_
    refine pv_callV1 (pc := 10) dX12_led_10 mgX12_intAt lv_X12_242_12 (by decide) (sx_61 hT) (by omega) (c_X12_intAt hT hR hs (i_in (k := i) (by omega) (by decide))) rfl rfl (by decide) ?_
    refine pv_topv (y := (K (1 + s.toNatClampNeg) i).toInt32) (by rw [i_nat (by omega)]; exact congrArg Int64.toInt32 (hM.2.2.2.2.2.2.1 _ (pv_in_lt hs).2.2.1 i (by omega))) ?_
    refine pv_istore_4 (pc := 13) dX12_led_13 (by decide) rfl ?_
    refine pv_aload_0 (pc := 15) dX12_led_15 ?_
    refine pv_iload_3 (pc := 16) dX12_led_16 ?_
    refine pv_putI (pc := 17) dX12_led_17 fl_X12_245_12 (fun q => by cases q) ⟨rfl, rfl, rfl⟩ (by decide) (sx_61 hT) ?_
    rw [m_at_u _ _ _ _ _ (by decide), m_dn_x]
    refine pv_aload_0 (pc := 20) dX12_led_20 ?_
    refine pv_iload_4 (pc := 21) dX12_led_21 ?_
    refine pv_callV1 (pc := 23) dX12_led_23 mgX12_isFigure lv_X12_119_12 (by decide) (sx_61 hT) (by omega) (c_X12_isFigure hT) rfl rfl (by decide) ?_
    refine pv_if_ne (pc := 26) (tgt := 31) dX12_led_26 (by decide) (fun h26 => ?_) (fun h26 => ?_)
    · have hF := isF1 hM h26
      have hM1 := hM.scr (m_dn_k I L (Int32.ofNat i) y)
      have hF8 := (hF.nat hW).1
      have hF3 : I 65 ((K (1 + s.toNatClampNeg) i).toInt32).toNatClampNeg = J 3 ((K (1 + s.toNatClampNeg) i).toInt32).toNatClampNeg := (hM.2.1 _ (hF.nat hW).2).2.2
      refine pv_aload_0 (pc := 31) dX12_led_31 ?_
      refine pv_iload_4 (pc := 32) dX12_led_32 ?_
      refine pv_callV0 (pc := 34) dX12_led_34 mgX12_figured lv_X12_233_12 (by decide) (sx_61 hT) (by omega) (n_figured hT hR hW hM1 hF (by omega)) rfl rfl (by decide) ?_
      refine pv_aload_0 (pc := 37) dX12_led_37 ?_
      refine pv_dup (pc := 38) dX12_led_38 rfl ?_
      refine pv_getI (pc := 39) dX12_led_39 fg_X12_248_12 rfl (by decide) (sx_61 hT) ?_
      refine pv_aload_0 (pc := 42) dX12_led_42 ?_
      refine pv_getR (pc := 43) dX12_led_43 fg_X12_30_12 rfl (by decide) (sx_61 hT) (rx_61_10 hR) ?_
      refine pv_iload_4 (pc := 46) dX12_led_46 ?_
      refine pv_ialoadj (pc := 48) dX12_led_48 (sx_65 hT) rfl hF8 ?_
      refine pv_iadd (pc := 49) dX12_led_49 ?_
      refine pv_putI (pc := 50) dX12_led_50 fl_X12_248_12 (fun q => by cases q) ⟨rfl, rfl, rfl⟩ (by decide) (sx_61 hT) ?_
      rw [m_at_u _ _ _ _ _ (by decide), m_dn_y]
      refine pv_memI (I := m_at (m_dn I (Int32.ofNat i) (y + J 3 ((K (1 + s.toNatClampNeg) i).toInt32).toNatClampNeg)) _) (by rw [← hF3]; rfl) ?_
      refine pv_aload_0 (pc := 53) dX12_led_53 ?_
      refine pv_callV1 (pc := 54) dX12_led_54 mgX12_isRoom lv_X12_236_12 (by decide) (sx_61 hT) (by omega) (c_X12_isRoom hT) rfl rfl (by decide) ?_
      refine pv_if_ne (pc := 57) (tgt := 62) dX12_led_57 (by decide) (fun h57 => ?_) (fun h57 => ?_)
      · refine pv_iinc_3 (pc := 62) (v := _ + 1) dX12_led_62 rfl (by decide) rfl ?_
        refine pv_goto (pc := 65) (tgt := 2) dX12_led_65 (by decide) ?_
        rw [i_inc, w_led_s hF ((pv_b_n0 _).mp h57)]
        exact ih (i + 1) _ _ _ _ _ _ (by omega)
      · refine pv_iconst (pc := 60) (v := 0) dX12_led_60 (by decide) ?_
        refine pv_iret (pc := 61) dX12_led_61 rfl rfl ?_
        have e := w_led_f (m := m) (x := x) (p := p) (q := q) (c := c) (y := y) hF ((pv_b_0 _).mp h57)
        rw [e]; exact ⟨rfl, rfl, rfl, rfl, rfl⟩
    · refine pv_iconst (pc := 29) (v := 0) dX12_led_29 (by decide) ?_
      refine pv_iret (pc := 30) dX12_led_30 rfl rfl ?_
      have e : w_led J K s.toNatClampNeg (m + 1) i x p q c y = (false, Int32.ofNat i, p, q, c, y) := by have hN := isF0 hM h26; unfold w_isF at hN; rw [w_led, if_neg hN]
      rw [e]; exact ⟨rfl, rfl, rfl, rfl, rfl⟩

set_option maxRecDepth 100000 in
set_option maxHeartbeats 4000000 in
theorem c_X12_led {G : pv_G} {d : Nat} {J : pv_I} {K : pv_L} {s n : Int32} {t : pv_T} {I : pv_I} {L : pv_L} {Rf : pv_R} (hT : sh_ok t) (hR : rf_ok Rf) (hW : WF J K) (hM : RM J K I L) (hs : vp_in s 8) (h0 : 0 ≤ n.toInt) (hn : n.toInt ≤ 160) (hd : 3 ≤ d) {p q : Int64} {c : Nat → Int32} {x y : Int32} : pv_Mt G mX12_led d 0 0 [.ref 61, .int s, .int n] t (m_at (m_dn I x y) c) (m_pq L p q) Rf (pv_is (some (.int (pv_b (w_led J K s.toNatClampNeg n.toNatClampNeg 0 x p q c y).1))) t (m_ld I (w_led J K s.toNatClampNeg n.toNatClampNeg 0 x p q c y)) (l_ld L (w_led J K s.toNatClampNeg n.toNatClampNeg 0 x p q c y)) Rf) := by
  refine pv_mt mgX12_led.2.2.2.2.2 [.ref 61, .int s, .int n, .retAddr 0, .retAddr 0] rfl (Nat.le_of_ble_eq_true rfl) ?_
  refine pv_iconst (pc := 0) (v := 0) dX12_led_0 (by decide) ?_
  refine pv_istore_3 (pc := 1) dX12_led_1 (by decide) rfl ?_
  have hnl := i_lit n
  refine l_led hT hR hW hM hs h0 hn (by omega) n.toNatClampNeg 0 x p q c y _ (by omega)

set_option maxRecDepth 100000 in
set_option maxHeartbeats 4000000 in
theorem c_X12_danced {G : pv_G} {d : Nat} {J : pv_I} {K : pv_L} {s n : Int32} {t : pv_T} {I : pv_I} {L : pv_L} {Rf : pv_R} (hT : sh_ok t) (hR : rf_ok Rf) (hW : WF J K) (hM : RM J K I L) (hs : vp_in s 8) (h0 : 0 ≤ n.toInt) (hn : n.toInt ≤ 160) (hd : 4 ≤ d) : pv_Mt G mX12_danced d 0 0 [.ref 61, .int s, .int n] t I L Rf (pv_is (some (.int (pv_b (w_led J K s.toNatClampNeg n.toNatClampNeg 0 (I 61 32) (K 0 0) (K 0 1) (J 4) 0).1))) t (m_ld I (w_led J K s.toNatClampNeg n.toNatClampNeg 0 (I 61 32) (K 0 0) (K 0 1) (J 4) 0)) (l_ld L (w_led J K s.toNatClampNeg n.toNatClampNeg 0 (I 61 32) (K 0 0) (K 0 1) (J 4) 0)) Rf) := by
  refine pv_mt mgX12_danced.2.2.2.2.2 [.ref 61, .int s, .int n] rfl (Nat.le_of_ble_eq_true rfl) ?_
  refine pv_aload_0 (pc := 0) dX12_danced_0 ?_
  refine pv_callV0 (pc := 1) dX12_danced_1 mgX12_begins lv_X12_230_12 (by decide) (sx_61 hT) (by omega) (n_begins hT hR hM) rfl rfl (by decide) ?_
  refine pv_aload_0 (pc := 4) dX12_danced_4 ?_
  refine pv_iconst (pc := 5) (v := 0) dX12_danced_5 (by decide) ?_
  refine pv_putI (pc := 6) dX12_danced_6 fl_X12_248_12 (fun q => by cases q) ⟨rfl, rfl, rfl⟩ (by decide) (sx_61 hT) ?_
  rw [m_at_u _ _ _ _ _ (by decide)]
  refine pv_memI (I := m_at (m_dn I (I 61 32) 0) (J 4)) (congrArg (fun z => m_at z (J 4)) (by have e := m_dn_y I (I 61 32) (I 61 33) 0; rw [m_dn_self] at e; exact e)) ?_
  refine pv_aload_0 (pc := 9) dX12_danced_9 ?_
  refine pv_iload_1 (pc := 10) dX12_danced_10 ?_
  refine pv_iload_2 (pc := 11) dX12_danced_11 ?_
  refine pv_callV1 (pc := 12) dX12_danced_12 mgX12_led lv_X12_251_12 (by decide) (sx_61 hT) (by omega) (c_X12_led (x := I 61 32) (y := 0) hT hR hW hM hs h0 hn (by omega)) rfl rfl (by decide) ?_
  refine pv_iret (pc := 15) dX12_danced_15 rfl (pv_b_nar _) ?_
  exact ⟨rfl, rfl, rfl, rfl, rfl⟩

