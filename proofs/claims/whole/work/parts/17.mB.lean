/-! the reference's hall in thought -/
def m_at (I : pv_I) (c : Nat → Int32) : pv_I := pv_u (pv_u (pv_u (pv_u I 73 0 (c 0)) 73 1 (c 1)) 73 2 (c 2)) 73 3 (c 3)
def m_st (I : pv_I) (c : Nat → Int32) : pv_I := pv_u (pv_u (pv_u (pv_u I 66 0 (c 0)) 66 1 (c 1)) 66 2 (c 2)) 66 3 (c 3)
def m_pq (L : pv_L) (p q : Int64) : pv_L := pv_u (pv_u L 61 18 p) 61 19 q
def m_PQ (L : pv_L) (p q : Int64) : pv_L := pv_u (pv_u L 61 5 p) 61 6 q
theorem m_at_app (I : pv_I) (c : Nat → Int32) (a j : Nat) : m_at I c a j = if a = 73 ∧ j < 4 then c j else I a j := by
  simp only [m_at, pv_u_app]
  by_cases ha : a = 73
  · subst ha
    match j with
    | 0 => simp
    | 1 => simp
    | 2 => simp
    | 3 => simp
    | j + 4 => simp; intro h; omega
  · simp [ha]
theorem m_st_app (I : pv_I) (c : Nat → Int32) (a j : Nat) : m_st I c a j = if a = 66 ∧ j < 4 then c j else I a j := by
  simp only [m_st, pv_u_app]
  by_cases ha : a = 66
  · subst ha
    match j with
    | 0 => simp
    | 1 => simp
    | 2 => simp
    | 3 => simp
    | j + 4 => simp; intro h; omega
  · simp [ha]
theorem m_pq_app (L : pv_L) (p q : Int64) (a j : Nat) : m_pq L p q a j = if a = 61 ∧ j = 19 then q else if a = 61 ∧ j = 18 then p else L a j := rfl
theorem m_PQ_app (L : pv_L) (p q : Int64) (a j : Nat) : m_PQ L p q a j = if a = 61 ∧ j = 6 then q else if a = 61 ∧ j = 5 then p else L a j := rfl
/-- dancers at corners 1 and 2 change, if k is odd -/
def h_sw (k : Int32) (c : Nat → Int32) : Nat → Int32 := if k % 2 = 0 then c else fun j => if j = 1 then c 2 else if j = 2 then c 1 else c j
/-- each goes on by k corners -/
def h_on (k : Nat) (c : Nat → Int32) : Nat → Int32 := fun j => c ((j + 4 - k) % 4)
theorem m_at_self (I : pv_I) : m_at I (I 73) = I := by
  funext a j
  rw [m_at_app]
  split
  · rename_i h; rw [h.1]
  · rfl
theorem m_pq_self (L : pv_L) : m_pq L (L 61 18) (L 61 19) = L := by
  funext a j
  rw [m_pq_app]
  split
  · rename_i h; rw [h.1, h.2]
  · split
    · rename_i h; rw [h.1, h.2]
    · rfl
theorem m_at_at (I : pv_I) (c c1 : Nat → Int32) : m_at (m_at I c) c1 = m_at I c1 := by
  funext a j
  simp only [m_at_app]
  split <;> rfl
theorem m_pq_pq (L : pv_L) (p q p1 q1 : Int64) : m_pq (m_pq L p q) p1 q1 = m_pq L p1 q1 := by
  funext a j
  simp only [m_pq_app]
  split
  · rfl
  · split <;> rfl
theorem m_pq_eq {L1 L : pv_L} {p q : Int64} (h0 : ∀ a j, ¬ (a = 61 ∧ j = 19) → ¬ (a = 61 ∧ j = 18) → L1 a j = L a j) (h1 : L1 61 18 = p) (h2 : L1 61 19 = q) : L1 = m_pq L p q := by
  funext a j
  rw [m_pq_app]
  split
  · rename_i h; rw [h.1, h.2, h2]
  · rename_i h
    split
    · rename_i h; rw [h.1, h.2, h1]
    · rename_i h3; exact h0 a j h h3
theorem m_at_eq {I1 I : pv_I} {c : Nat → Int32} (h0 : ∀ a, a ≠ 73 → I1 a = I a) (h1 : ∀ j, j < 4 → I1 73 j = c j) (h2 : ∀ j, 4 ≤ j → I1 73 j = I 73 j) : I1 = m_at I c := by
  funext a j
  rw [m_at_app]
  by_cases ha : a = 73
  · subst ha
    by_cases hj : j < 4
    · rw [if_pos ⟨rfl, hj⟩]; exact h1 j hj
    · rw [if_neg (fun q => hj q.2)]; exact h2 j (by omega)
  · rw [if_neg (fun q => ha q.1), h0 a ha]

set_option maxRecDepth 100000 in
set_option maxHeartbeats 4000000 in
theorem c_X12_begins {G : pv_G} {d : Nat}  {t : pv_T} {I : pv_I} {L : pv_L} {Rf : pv_R} (hT : sh_ok t) (hR : rf_ok Rf) : pv_Mt G mX12_begins d 0 0 [.ref 61] t I L Rf (pv_is none t (m_at I (I 66)) (m_pq L (L 61 5) (L 61 6)) Rf) := by
  refine pv_mt mgX12_begins.2.2.2.2.2 [.ref 61, .retAddr 0] rfl (Nat.le_of_ble_eq_true rfl) ?_
  refine pv_aload_0 (pc := 0) dX12_begins_0 ?_
  refine pv_aload_0 (pc := 1) dX12_begins_1 ?_
  refine pv_getL (pc := 2) dX12_begins_2 fg_X12_147_12 (by decide) (sx_61 hT) ?_
  refine pv_putL (pc := 5) dX12_begins_5 fl_X12_150_12 (fun q => by cases q) (by decide) (sx_61 hT) ?_
  refine pv_aload_0 (pc := 8) dX12_begins_8 ?_
  refine pv_aload_0 (pc := 9) dX12_begins_9 ?_
  refine pv_getL (pc := 10) dX12_begins_10 fg_X12_16_12 (by decide) (sx_61 hT) ?_
  refine pv_putL (pc := 13) dX12_begins_13 fl_X12_153_12 (fun q => by cases q) (by decide) (sx_61 hT) ?_
  refine pv_iconst (pc := 16) (v := 0) dX12_begins_16 (by decide) ?_
  refine pv_istore_1 (pc := 17) dX12_begins_17 (by decide) rfl ?_
  refine pv_iload_1 (pc := 18) dX12_begins_18 ?_
  refine pv_iconst (pc := 19) (v := 4) dX12_begins_19 (by decide) ?_
  refine pv_icmp_ge (pc := 20) (tgt := 41) dX12_begins_20 (by decide) (fun q => absurd q (by decide)) (fun _ => ?_)
  refine pv_aload_0 (pc := 23) dX12_begins_23 ?_
  refine pv_getR (pc := 24) dX12_begins_24 fg_X12_55_12 rfl (by decide) (sx_61 hT) (rx_61_20 hR) ?_
  refine pv_iload_1 (pc := 27) dX12_begins_27 ?_
  refine pv_aload_0 (pc := 28) dX12_begins_28 ?_
  refine pv_getR (pc := 29) dX12_begins_29 fg_X12_33_12 rfl (by decide) (sx_61 hT) (rx_61_11 hR) ?_
  refine pv_iload_1 (pc := 32) dX12_begins_32 ?_
  refine pv_ialoadj (pc := 33) dX12_begins_33 (sx_66 hT) (j := 0) (by decide) (by unfold vp_in; decide) ?_
  refine pv_iastorej (pc := 34) dX12_begins_34 (by decide) (sx_73 hT) (j := 0) (by decide) (by unfold vp_in; decide) ?_
  refine pv_iinc_1 (pc := 35) (v := 1) dX12_begins_35 (by decide) (by decide) rfl ?_
  refine pv_goto (pc := 38) (tgt := 18) dX12_begins_38 (by decide) ?_
  refine pv_iload_1 (pc := 18) dX12_begins_18 ?_
  refine pv_iconst (pc := 19) (v := 4) dX12_begins_19 (by decide) ?_
  refine pv_icmp_ge (pc := 20) (tgt := 41) dX12_begins_20 (by decide) (fun q => absurd q (by decide)) (fun _ => ?_)
  refine pv_aload_0 (pc := 23) dX12_begins_23 ?_
  refine pv_getR (pc := 24) dX12_begins_24 fg_X12_55_12 rfl (by decide) (sx_61 hT) (rx_61_20 hR) ?_
  refine pv_iload_1 (pc := 27) dX12_begins_27 ?_
  refine pv_aload_0 (pc := 28) dX12_begins_28 ?_
  refine pv_getR (pc := 29) dX12_begins_29 fg_X12_33_12 rfl (by decide) (sx_61 hT) (rx_61_11 hR) ?_
  refine pv_iload_1 (pc := 32) dX12_begins_32 ?_
  refine pv_ialoadj (pc := 33) dX12_begins_33 (sx_66 hT) (j := 1) (by decide) (by unfold vp_in; decide) ?_
  refine pv_iastorej (pc := 34) dX12_begins_34 (by decide) (sx_73 hT) (j := 1) (by decide) (by unfold vp_in; decide) ?_
  refine pv_iinc_1 (pc := 35) (v := 2) dX12_begins_35 (by decide) (by decide) rfl ?_
  refine pv_goto (pc := 38) (tgt := 18) dX12_begins_38 (by decide) ?_
  refine pv_iload_1 (pc := 18) dX12_begins_18 ?_
  refine pv_iconst (pc := 19) (v := 4) dX12_begins_19 (by decide) ?_
  refine pv_icmp_ge (pc := 20) (tgt := 41) dX12_begins_20 (by decide) (fun q => absurd q (by decide)) (fun _ => ?_)
  refine pv_aload_0 (pc := 23) dX12_begins_23 ?_
  refine pv_getR (pc := 24) dX12_begins_24 fg_X12_55_12 rfl (by decide) (sx_61 hT) (rx_61_20 hR) ?_
  refine pv_iload_1 (pc := 27) dX12_begins_27 ?_
  refine pv_aload_0 (pc := 28) dX12_begins_28 ?_
  refine pv_getR (pc := 29) dX12_begins_29 fg_X12_33_12 rfl (by decide) (sx_61 hT) (rx_61_11 hR) ?_
  refine pv_iload_1 (pc := 32) dX12_begins_32 ?_
  refine pv_ialoadj (pc := 33) dX12_begins_33 (sx_66 hT) (j := 2) (by decide) (by unfold vp_in; decide) ?_
  refine pv_iastorej (pc := 34) dX12_begins_34 (by decide) (sx_73 hT) (j := 2) (by decide) (by unfold vp_in; decide) ?_
  refine pv_iinc_1 (pc := 35) (v := 3) dX12_begins_35 (by decide) (by decide) rfl ?_
  refine pv_goto (pc := 38) (tgt := 18) dX12_begins_38 (by decide) ?_
  refine pv_iload_1 (pc := 18) dX12_begins_18 ?_
  refine pv_iconst (pc := 19) (v := 4) dX12_begins_19 (by decide) ?_
  refine pv_icmp_ge (pc := 20) (tgt := 41) dX12_begins_20 (by decide) (fun q => absurd q (by decide)) (fun _ => ?_)
  refine pv_aload_0 (pc := 23) dX12_begins_23 ?_
  refine pv_getR (pc := 24) dX12_begins_24 fg_X12_55_12 rfl (by decide) (sx_61 hT) (rx_61_20 hR) ?_
  refine pv_iload_1 (pc := 27) dX12_begins_27 ?_
  refine pv_aload_0 (pc := 28) dX12_begins_28 ?_
  refine pv_getR (pc := 29) dX12_begins_29 fg_X12_33_12 rfl (by decide) (sx_61 hT) (rx_61_11 hR) ?_
  refine pv_iload_1 (pc := 32) dX12_begins_32 ?_
  refine pv_ialoadj (pc := 33) dX12_begins_33 (sx_66 hT) (j := 3) (by decide) (by unfold vp_in; decide) ?_
  refine pv_iastorej (pc := 34) dX12_begins_34 (by decide) (sx_73 hT) (j := 3) (by decide) (by unfold vp_in; decide) ?_
  refine pv_iinc_1 (pc := 35) (v := 4) dX12_begins_35 (by decide) (by decide) rfl ?_
  refine pv_goto (pc := 38) (tgt := 18) dX12_begins_38 (by decide) ?_
  refine pv_iload_1 (pc := 18) dX12_begins_18 ?_
  refine pv_iconst (pc := 19) (v := 4) dX12_begins_19 (by decide) ?_
  refine pv_icmp_ge (pc := 20) (tgt := 41) dX12_begins_20 (by decide) (fun _ => ?_) (fun q => absurd q (by decide))
  refine pv_vret (pc := 41) dX12_begins_41 rfl ?_
  exact ⟨rfl, rfl, rfl, rfl, rfl⟩

set_option maxRecDepth 100000 in
set_option maxHeartbeats 4000000 in
theorem c_X12_truly {G : pv_G} {d : Nat}  {t : pv_T} {I : pv_I} {L : pv_L} {Rf : pv_R} (hT : sh_ok t) (hR : rf_ok Rf) : pv_Mt G mX12_truly d 0 0 [.ref 61] t I L Rf (pv_is none t (m_st I (I 73)) (m_PQ L (L 61 18) (L 61 19)) Rf) := by
  refine pv_mt mgX12_truly.2.2.2.2.2 [.ref 61, .retAddr 0] rfl (Nat.le_of_ble_eq_true rfl) ?_
  refine pv_aload_0 (pc := 0) dX12_truly_0 ?_
  refine pv_aload_0 (pc := 1) dX12_truly_1 ?_
  refine pv_getL (pc := 2) dX12_truly_2 fg_X12_150_12 (by decide) (sx_61 hT) ?_
  refine pv_putL (pc := 5) dX12_truly_5 fl_X12_147_12 (fun q => by cases q) (by decide) (sx_61 hT) ?_
  refine pv_aload_0 (pc := 8) dX12_truly_8 ?_
  refine pv_aload_0 (pc := 9) dX12_truly_9 ?_
  refine pv_getL (pc := 10) dX12_truly_10 fg_X12_153_12 (by decide) (sx_61 hT) ?_
  refine pv_putL (pc := 13) dX12_truly_13 fl_X12_16_12 (fun q => by cases q) (by decide) (sx_61 hT) ?_
  refine pv_iconst (pc := 16) (v := 0) dX12_truly_16 (by decide) ?_
  refine pv_istore_1 (pc := 17) dX12_truly_17 (by decide) rfl ?_
  refine pv_iload_1 (pc := 18) dX12_truly_18 ?_
  refine pv_iconst (pc := 19) (v := 4) dX12_truly_19 (by decide) ?_
  refine pv_icmp_ge (pc := 20) (tgt := 41) dX12_truly_20 (by decide) (fun q => absurd q (by decide)) (fun _ => ?_)
  refine pv_aload_0 (pc := 23) dX12_truly_23 ?_
  refine pv_getR (pc := 24) dX12_truly_24 fg_X12_33_12 rfl (by decide) (sx_61 hT) (rx_61_11 hR) ?_
  refine pv_iload_1 (pc := 27) dX12_truly_27 ?_
  refine pv_aload_0 (pc := 28) dX12_truly_28 ?_
  refine pv_getR (pc := 29) dX12_truly_29 fg_X12_55_12 rfl (by decide) (sx_61 hT) (rx_61_20 hR) ?_
  refine pv_iload_1 (pc := 32) dX12_truly_32 ?_
  refine pv_ialoadj (pc := 33) dX12_truly_33 (sx_73 hT) (j := 0) (by decide) (by unfold vp_in; decide) ?_
  refine pv_iastorej (pc := 34) dX12_truly_34 (by decide) (sx_66 hT) (j := 0) (by decide) (by unfold vp_in; decide) ?_
  refine pv_iinc_1 (pc := 35) (v := 1) dX12_truly_35 (by decide) (by decide) rfl ?_
  refine pv_goto (pc := 38) (tgt := 18) dX12_truly_38 (by decide) ?_
  refine pv_iload_1 (pc := 18) dX12_truly_18 ?_
  refine pv_iconst (pc := 19) (v := 4) dX12_truly_19 (by decide) ?_
  refine pv_icmp_ge (pc := 20) (tgt := 41) dX12_truly_20 (by decide) (fun q => absurd q (by decide)) (fun _ => ?_)
  refine pv_aload_0 (pc := 23) dX12_truly_23 ?_
  refine pv_getR (pc := 24) dX12_truly_24 fg_X12_33_12 rfl (by decide) (sx_61 hT) (rx_61_11 hR) ?_
  refine pv_iload_1 (pc := 27) dX12_truly_27 ?_
  refine pv_aload_0 (pc := 28) dX12_truly_28 ?_
  refine pv_getR (pc := 29) dX12_truly_29 fg_X12_55_12 rfl (by decide) (sx_61 hT) (rx_61_20 hR) ?_
  refine pv_iload_1 (pc := 32) dX12_truly_32 ?_
  refine pv_ialoadj (pc := 33) dX12_truly_33 (sx_73 hT) (j := 1) (by decide) (by unfold vp_in; decide) ?_
  refine pv_iastorej (pc := 34) dX12_truly_34 (by decide) (sx_66 hT) (j := 1) (by decide) (by unfold vp_in; decide) ?_
  refine pv_iinc_1 (pc := 35) (v := 2) dX12_truly_35 (by decide) (by decide) rfl ?_
  refine pv_goto (pc := 38) (tgt := 18) dX12_truly_38 (by decide) ?_
  refine pv_iload_1 (pc := 18) dX12_truly_18 ?_
  refine pv_iconst (pc := 19) (v := 4) dX12_truly_19 (by decide) ?_
  refine pv_icmp_ge (pc := 20) (tgt := 41) dX12_truly_20 (by decide) (fun q => absurd q (by decide)) (fun _ => ?_)
  refine pv_aload_0 (pc := 23) dX12_truly_23 ?_
  refine pv_getR (pc := 24) dX12_truly_24 fg_X12_33_12 rfl (by decide) (sx_61 hT) (rx_61_11 hR) ?_
  refine pv_iload_1 (pc := 27) dX12_truly_27 ?_
  refine pv_aload_0 (pc := 28) dX12_truly_28 ?_
  refine pv_getR (pc := 29) dX12_truly_29 fg_X12_55_12 rfl (by decide) (sx_61 hT) (rx_61_20 hR) ?_
  refine pv_iload_1 (pc := 32) dX12_truly_32 ?_
  refine pv_ialoadj (pc := 33) dX12_truly_33 (sx_73 hT) (j := 2) (by decide) (by unfold vp_in; decide) ?_
  refine pv_iastorej (pc := 34) dX12_truly_34 (by decide) (sx_66 hT) (j := 2) (by decide) (by unfold vp_in; decide) ?_
  refine pv_iinc_1 (pc := 35) (v := 3) dX12_truly_35 (by decide) (by decide) rfl ?_
  refine pv_goto (pc := 38) (tgt := 18) dX12_truly_38 (by decide) ?_
  refine pv_iload_1 (pc := 18) dX12_truly_18 ?_
  refine pv_iconst (pc := 19) (v := 4) dX12_truly_19 (by decide) ?_
  refine pv_icmp_ge (pc := 20) (tgt := 41) dX12_truly_20 (by decide) (fun q => absurd q (by decide)) (fun _ => ?_)
  refine pv_aload_0 (pc := 23) dX12_truly_23 ?_
  refine pv_getR (pc := 24) dX12_truly_24 fg_X12_33_12 rfl (by decide) (sx_61 hT) (rx_61_11 hR) ?_
  refine pv_iload_1 (pc := 27) dX12_truly_27 ?_
  refine pv_aload_0 (pc := 28) dX12_truly_28 ?_
  refine pv_getR (pc := 29) dX12_truly_29 fg_X12_55_12 rfl (by decide) (sx_61 hT) (rx_61_20 hR) ?_
  refine pv_iload_1 (pc := 32) dX12_truly_32 ?_
  refine pv_ialoadj (pc := 33) dX12_truly_33 (sx_73 hT) (j := 3) (by decide) (by unfold vp_in; decide) ?_
  refine pv_iastorej (pc := 34) dX12_truly_34 (by decide) (sx_66 hT) (j := 3) (by decide) (by unfold vp_in; decide) ?_
  refine pv_iinc_1 (pc := 35) (v := 4) dX12_truly_35 (by decide) (by decide) rfl ?_
  refine pv_goto (pc := 38) (tgt := 18) dX12_truly_38 (by decide) ?_
  refine pv_iload_1 (pc := 18) dX12_truly_18 ?_
  refine pv_iconst (pc := 19) (v := 4) dX12_truly_19 (by decide) ?_
  refine pv_icmp_ge (pc := 20) (tgt := 41) dX12_truly_20 (by decide) (fun _ => ?_) (fun q => absurd q (by decide))
  refine pv_vret (pc := 41) dX12_truly_41 rfl ?_
  exact ⟨rfl, rfl, rfl, rfl, rfl⟩

def s_room (p q : Int64) : Bool := decide (p ≤ 1000000000000) && decide (-1000000000000 ≤ p) && decide (q ≤ 1000000000000)

set_option maxRecDepth 100000 in
set_option maxHeartbeats 4000000 in
theorem c_X12_isRoom {G : pv_G} {d : Nat}  {t : pv_T} {I : pv_I} {L : pv_L} {Rf : pv_R} (hT : sh_ok t) : pv_Mt G mX12_isRoom d 0 0 [.ref 61] t I L Rf (pv_is (some (.int (pv_b (s_room (L 61 18) (L 61 19))))) t I L Rf) := by
  refine pv_mt mgX12_isRoom.2.2.2.2.2 [.ref 61] rfl (Nat.le_of_ble_eq_true rfl) ?_
  refine pv_aload_0 (pc := 0) dX12_isRoom_0 ?_
  refine pv_getL (pc := 1) dX12_isRoom_1 fg_X12_150_12 (by decide) (sx_61 hT) ?_
  refine pv_ldc2 (pc := 4) dX12_isRoom_4 k_X12_135 ?_
  refine pv_lcmp_gt (pc := 7) (tgt := 37) dX12_isRoom_7 dX12_isRoom_8 (by decide) (fun h7 => ?_) (fun h7 => ?_)
  · refine pv_iconst (pc := 37) (v := 0) dX12_isRoom_37 (by decide) ?_
    refine pv_iret (pc := 38) dX12_isRoom_38 rfl rfl ?_
    refine ⟨congrArg (fun z => some (Value.int z)) ?_, rfl, rfl, rfl, rfl⟩
    simp only [Int32.lt_iff_toInt_lt, Int32.le_iff_toInt_le, Int64.lt_iff_toInt_lt, Int64.le_iff_toInt_le, pv_b, Bool.and_eq_true, Bool.or_eq_true, decide_eq_true_eq, s_room] at *
    first | rw [if_pos (by omega)] | rw [if_neg (by omega)]
  · refine pv_aload_0 (pc := 11) dX12_isRoom_11 ?_
    refine pv_getL (pc := 12) dX12_isRoom_12 fg_X12_150_12 (by decide) (sx_61 hT) ?_
    refine pv_ldc2 (pc := 15) dX12_isRoom_15 k_X12_137 ?_
    refine pv_lcmp_lt (pc := 18) (tgt := 37) dX12_isRoom_18 dX12_isRoom_19 (by decide) (fun h18 => ?_) (fun h18 => ?_)
    · refine pv_iconst (pc := 37) (v := 0) dX12_isRoom_37 (by decide) ?_
      refine pv_iret (pc := 38) dX12_isRoom_38 rfl rfl ?_
      refine ⟨congrArg (fun z => some (Value.int z)) ?_, rfl, rfl, rfl, rfl⟩
      simp only [Int32.lt_iff_toInt_lt, Int32.le_iff_toInt_le, Int64.lt_iff_toInt_lt, Int64.le_iff_toInt_le, pv_b, Bool.and_eq_true, Bool.or_eq_true, decide_eq_true_eq, s_room] at *
      first | rw [if_pos (by omega)] | rw [if_neg (by omega)]
    · refine pv_aload_0 (pc := 22) dX12_isRoom_22 ?_
      refine pv_getL (pc := 23) dX12_isRoom_23 fg_X12_153_12 (by decide) (sx_61 hT) ?_
      refine pv_ldc2 (pc := 26) dX12_isRoom_26 k_X12_135 ?_
      refine pv_lcmp_gt (pc := 29) (tgt := 37) dX12_isRoom_29 dX12_isRoom_30 (by decide) (fun h29 => ?_) (fun h29 => ?_)
      · refine pv_iconst (pc := 37) (v := 0) dX12_isRoom_37 (by decide) ?_
        refine pv_iret (pc := 38) dX12_isRoom_38 rfl rfl ?_
        refine ⟨congrArg (fun z => some (Value.int z)) ?_, rfl, rfl, rfl, rfl⟩
        simp only [Int32.lt_iff_toInt_lt, Int32.le_iff_toInt_le, Int64.lt_iff_toInt_lt, Int64.le_iff_toInt_le, pv_b, Bool.and_eq_true, Bool.or_eq_true, decide_eq_true_eq, s_room] at *
        first | rw [if_pos (by omega)] | rw [if_neg (by omega)]
      · refine pv_iconst (pc := 33) (v := 1) dX12_isRoom_33 (by decide) ?_
        refine pv_goto (pc := 34) (tgt := 38) dX12_isRoom_34 (by decide) ?_
        refine pv_iret (pc := 38) dX12_isRoom_38 rfl rfl ?_
        refine ⟨congrArg (fun z => some (Value.int z)) ?_, rfl, rfl, rfl, rfl⟩
        simp only [Int32.lt_iff_toInt_lt, Int32.le_iff_toInt_le, Int64.lt_iff_toInt_lt, Int64.le_iff_toInt_le, pv_b, Bool.and_eq_true, Bool.or_eq_true, decide_eq_true_eq, s_room] at *
        first | rw [if_pos (by omega)] | rw [if_neg (by omega)]

set_option maxRecDepth 100000 in
set_option maxHeartbeats 4000000 in
theorem c_X12_more {G : pv_G} {d : Nat} {k : Int32} {t : pv_T} {I : pv_I} {L : pv_L} {Rf : pv_R} (hT : sh_ok t) (hR : rf_ok Rf) : pv_Mt G mX12_more d 0 0 [.ref 61, .int k] t I L Rf (pv_is none t (m_at I (h_sw k (I 73))) (m_pq L (L 61 18 + k.toInt64 * L 61 19) (L 61 19)) Rf) := by
  refine pv_mt mgX12_more.2.2.2.2.2 [.ref 61, .int k, .retAddr 0] rfl (Nat.le_of_ble_eq_true rfl) ?_
  refine pv_aload_0 (pc := 0) dX12_more_0 ?_
  refine pv_dup (pc := 1) dX12_more_1 rfl ?_
  refine pv_getL (pc := 2) dX12_more_2 fg_X12_150_12 (by decide) (sx_61 hT) ?_
  refine pv_iload_1 (pc := 5) dX12_more_5 ?_
  refine pv_i2l (pc := 6) dX12_more_6 ?_
  refine pv_aload_0 (pc := 7) dX12_more_7 ?_
  refine pv_getL (pc := 8) dX12_more_8 fg_X12_153_12 (by decide) (sx_61 hT) ?_
  refine pv_lmul (pc := 11) dX12_more_11 ?_
  refine pv_ladd (pc := 12) dX12_more_12 ?_
  refine pv_putL (pc := 13) dX12_more_13 fl_X12_150_12 (fun q => by cases q) (by decide) (sx_61 hT) ?_
  refine pv_iload_1 (pc := 16) dX12_more_16 ?_
  refine pv_iconst (pc := 17) (v := 2) dX12_more_17 (by decide) ?_
  refine pv_irem (pc := 18) dX12_more_18 (by decide) ?_
  refine pv_if_eq (pc := 19) (tgt := 48) dX12_more_19 (by decide) (fun h19 => ?_) (fun h19 => ?_)
  · refine pv_vret (pc := 48) dX12_more_48 rfl ?_
    refine ⟨rfl, rfl, ?_, ?_, rfl⟩
    · first
        | (unfold h_sw; rw [if_pos (by assumption)]; exact (m_at_self I).symm)
        | (unfold h_sw; rw [if_neg (by assumption)]; exact m_at_eq (fun a ha => by rw [pv_u_ne _ _ ha, pv_u_ne _ _ ha]) (fun j hj => by match j, hj with | 0, _ => rfl | 1, _ => rfl | 2, _ => rfl | 3, _ => rfl) (fun j hj => by rw [pv_u_app, pv_u_app, if_neg (by omega), if_neg (by omega)]))
    · funext a j
      simp only [m_pq_app, pv_u_app]
      by_cases h9 : a = 61 ∧ j = 19
      · rw [if_pos h9, if_neg (by omega), h9.1, h9.2]
      · rw [if_neg h9]
  · refine pv_aload_0 (pc := 22) dX12_more_22 ?_
    refine pv_getR (pc := 23) dX12_more_23 fg_X12_55_12 rfl (by decide) (sx_61 hT) (rx_61_20 hR) ?_
    refine pv_iconst (pc := 26) (v := 1) dX12_more_26 (by decide) ?_
    refine pv_ialoadj (pc := 27) dX12_more_27 (sx_73 hT) (j := 1) (by decide) (by unfold vp_in; decide) ?_
    refine pv_istore_2 (pc := 28) dX12_more_28 (by decide) rfl ?_
    refine pv_aload_0 (pc := 29) dX12_more_29 ?_
    refine pv_getR (pc := 30) dX12_more_30 fg_X12_55_12 rfl (by decide) (sx_61 hT) (rx_61_20 hR) ?_
    refine pv_iconst (pc := 33) (v := 1) dX12_more_33 (by decide) ?_
    refine pv_aload_0 (pc := 34) dX12_more_34 ?_
    refine pv_getR (pc := 35) dX12_more_35 fg_X12_55_12 rfl (by decide) (sx_61 hT) (rx_61_20 hR) ?_
    refine pv_iconst (pc := 38) (v := 2) dX12_more_38 (by decide) ?_
    refine pv_ialoadj (pc := 39) dX12_more_39 (sx_73 hT) (j := 2) (by decide) (by unfold vp_in; decide) ?_
    refine pv_iastorej (pc := 40) dX12_more_40 (by decide) (sx_73 hT) (j := 1) (by decide) (by unfold vp_in; decide) ?_
    refine pv_aload_0 (pc := 41) dX12_more_41 ?_
    refine pv_getR (pc := 42) dX12_more_42 fg_X12_55_12 rfl (by decide) (sx_61 hT) (rx_61_20 hR) ?_
    refine pv_iconst (pc := 45) (v := 2) dX12_more_45 (by decide) ?_
    refine pv_iload_2 (pc := 46) dX12_more_46 ?_
    refine pv_iastorej (pc := 47) dX12_more_47 (by decide) (sx_73 hT) (j := 2) (by decide) (by unfold vp_in; decide) ?_
    refine pv_vret (pc := 48) dX12_more_48 rfl ?_
    refine ⟨rfl, rfl, ?_, ?_, rfl⟩
    · first
        | (unfold h_sw; rw [if_pos (by assumption)]; exact (m_at_self I).symm)
        | (unfold h_sw; rw [if_neg (by assumption)]; exact m_at_eq (fun a ha => by rw [pv_u_ne _ _ ha, pv_u_ne _ _ ha]) (fun j hj => by match j, hj with | 0, _ => rfl | 1, _ => rfl | 2, _ => rfl | 3, _ => rfl) (fun j hj => by rw [pv_u_app, pv_u_app, if_neg (by omega), if_neg (by omega)]))
    · funext a j
      simp only [m_pq_app, pv_u_app]
      by_cases h9 : a = 61 ∧ j = 19
      · rw [if_pos h9, if_neg (by omega), h9.1, h9.2]
      · rw [if_neg h9]

/-- the reference's way of turning over -/
def m_tq (p : Int64) : Int64 := if p < 0 then -p else p
def m_tp (p q : Int64) : Int64 := if m_tq p = 0 then 1 else if 0 < p then -q else q
theorem i64_neg0 {x : Int64} (h : -x = 0) : x = 0 := by
  have := congrArg (fun y => -y) h
  simpa using this
theorem m_tq_eq (p q : Int64) : m_tq p = s_stepQ 2 p q := by
  unfold m_tq s_stepQ s_abs
  rw [if_pos rfl]
  split
  · rename_i h
    rw [if_neg (fun q => Int64.lt_irrefl (Int64.lt_trans h q))]
  · split
    · rfl
    · rename_i h1 h2
      have h3 : p = 0 := by
        simp only [Int64.lt_iff_toInt_lt, ← Int64.toInt_inj, (show (0 : Int64).toInt = 0 from by decide)] at *
        omega
      rw [h3]; rfl
theorem m_tp_eq (p q : Int64) : m_tp p q = s_stepP 2 p q := by
  have e : s_stepP 2 p q = if p = 0 then 1 else if 0 < p then -q else q := by
    unfold s_stepP
    rw [if_neg (show ¬ (2 : Int32) = 0 by decide), if_neg (show ¬ (2 : Int32) = 1 by decide)]
  rw [e]
  unfold m_tp
  by_cases h : p = 0
  · rw [if_pos h, if_pos (by rw [h]; rfl)]
  · rw [if_neg h, if_neg]
    unfold m_tq
    split
    · exact fun q => h (i64_neg0 q)
    · exact h

set_option maxRecDepth 100000 in
set_option maxHeartbeats 4000000 in
theorem c_X12_turns {G : pv_G} {d : Nat}  {t : pv_T} {I : pv_I} {L : pv_L} {Rf : pv_R} (hT : sh_ok t) : pv_Mt G mX12_turns d 0 0 [.ref 61] t I L Rf (pv_is none t (I) (m_pq L (s_stepP 2 (L 61 18) (L 61 19)) (s_stepQ 2 (L 61 18) (L 61 19))) Rf) := by
  refine pv_mt mgX12_turns.2.2.2.2.2 [.ref 61, .retAddr 0, .retAddr 0] rfl (Nat.le_of_ble_eq_true rfl) ?_
  refine pv_aload_0 (pc := 0) dX12_turns_0 ?_
  refine pv_getL (pc := 1) dX12_turns_1 fg_X12_150_12 (by decide) (sx_61 hT) ?_
  refine pv_lstore_1 (pc := 4) dX12_turns_4 (by decide) rfl ?_
  refine pv_aload_0 (pc := 5) dX12_turns_5 ?_
  refine pv_lload_1 (pc := 6) dX12_turns_6 ?_
  refine pv_lconst (pc := 7) (v := 0) dX12_turns_7 (by decide) ?_
  refine pv_lcmp_le (pc := 8) (tgt := 20) dX12_turns_8 dX12_turns_9 (by decide) (fun h8 => ?_) (fun h8 => ?_)
  · refine pv_aload_0 (pc := 20) dX12_turns_20 ?_
    refine pv_getL (pc := 21) dX12_turns_21 fg_X12_153_12 (by decide) (sx_61 hT) ?_
    refine pv_putL (pc := 24) dX12_turns_24 fl_X12_150_12 (fun q => by cases q) (by decide) (sx_61 hT) ?_
    refine pv_aload_0 (pc := 27) dX12_turns_27 ?_
    refine pv_lload_1 (pc := 28) dX12_turns_28 ?_
    refine pv_lconst (pc := 29) (v := 0) dX12_turns_29 (by decide) ?_
    refine pv_lcmp_ge (pc := 30) (tgt := 39) dX12_turns_30 dX12_turns_31 (by decide) (fun h30 => ?_) (fun h30 => ?_)
    · refine pv_lload_1 (pc := 39) dX12_turns_39 ?_
      refine pv_putL (pc := 40) dX12_turns_40 fl_X12_153_12 (fun q => by cases q) (by decide) (sx_61 hT) ?_
      refine pv_aload_0 (pc := 43) dX12_turns_43 ?_
      refine pv_getL (pc := 44) dX12_turns_44 fg_X12_153_12 (by decide) (sx_61 hT) ?_
      refine pv_lconst (pc := 47) (v := 0) dX12_turns_47 (by decide) ?_
      refine pv_lcmp_ne (pc := 48) (tgt := 57) dX12_turns_48 dX12_turns_49 (by decide) (fun h48 => ?_) (fun h48 => ?_)
      · refine pv_vret (pc := 57) dX12_turns_57 rfl ?_
        simp only [pv_u_app, pv_ur_app, Nat.reduceEqDiff, and_self, and_true, true_and, and_false, false_and, ↓reduceIte, not_true_eq_false, not_false_eq_true] at *
        refine ⟨rfl, rfl, rfl, m_pq_eq (fun a j g1 g2 => by simp only [pv_u_app, g1, g2, ↓reduceIte]) ?_ ?_, rfl⟩
        · rw [← m_tp_eq]
          first | (simp only [m_tp, m_tq, *, pv_u_app, pv_ur_app, Nat.reduceEqDiff, and_self, and_true, true_and, and_false, false_and, ↓reduceIte, not_true_eq_false, not_false_eq_true]; done) | (simp [m_tp, m_tq, pv_u_app, *]; done) | (simp_all [m_tp, m_tq, pv_u_app]; done)
        · rw [← m_tq_eq]
          first | (simp only [m_tq, *, pv_u_app, pv_ur_app, Nat.reduceEqDiff, and_self, and_true, true_and, and_false, false_and, ↓reduceIte, not_true_eq_false, not_false_eq_true]; done) | (simp [m_tq, pv_u_app, *]; done) | (simp_all [m_tq, pv_u_app]; done)
      · refine pv_aload_0 (pc := 52) dX12_turns_52 ?_
        refine pv_lconst (pc := 53) (v := 1) dX12_turns_53 (by decide) ?_
        refine pv_putL (pc := 54) dX12_turns_54 fl_X12_150_12 (fun q => by cases q) (by decide) (sx_61 hT) ?_
        refine pv_vret (pc := 57) dX12_turns_57 rfl ?_
        simp only [pv_u_app, pv_ur_app, Nat.reduceEqDiff, and_self, and_true, true_and, and_false, false_and, ↓reduceIte, not_true_eq_false, not_false_eq_true] at *
        refine ⟨rfl, rfl, rfl, m_pq_eq (fun a j g1 g2 => by simp only [pv_u_app, g1, g2, ↓reduceIte]) ?_ ?_, rfl⟩
        · rw [← m_tp_eq]
          first | (simp only [m_tp, m_tq, *, pv_u_app, pv_ur_app, Nat.reduceEqDiff, and_self, and_true, true_and, and_false, false_and, ↓reduceIte, not_true_eq_false, not_false_eq_true]; done) | (simp [m_tp, m_tq, pv_u_app, *]; done) | (simp_all [m_tp, m_tq, pv_u_app]; done)
        · rw [← m_tq_eq]
          first | (simp only [m_tq, *, pv_u_app, pv_ur_app, Nat.reduceEqDiff, and_self, and_true, true_and, and_false, false_and, ↓reduceIte, not_true_eq_false, not_false_eq_true]; done) | (simp [m_tq, pv_u_app, *]; done) | (simp_all [m_tq, pv_u_app]; done)
    · refine pv_lload_1 (pc := 34) dX12_turns_34 ?_
      refine pv_lneg (pc := 35) dX12_turns_35 ?_
      refine pv_goto (pc := 36) (tgt := 40) dX12_turns_36 (by decide) ?_
      refine pv_putL (pc := 40) dX12_turns_40 fl_X12_153_12 (fun q => by cases q) (by decide) (sx_61 hT) ?_
      refine pv_aload_0 (pc := 43) dX12_turns_43 ?_
      refine pv_getL (pc := 44) dX12_turns_44 fg_X12_153_12 (by decide) (sx_61 hT) ?_
      refine pv_lconst (pc := 47) (v := 0) dX12_turns_47 (by decide) ?_
      refine pv_lcmp_ne (pc := 48) (tgt := 57) dX12_turns_48 dX12_turns_49 (by decide) (fun h48 => ?_) (fun h48 => ?_)
      · refine pv_vret (pc := 57) dX12_turns_57 rfl ?_
        simp only [pv_u_app, pv_ur_app, Nat.reduceEqDiff, and_self, and_true, true_and, and_false, false_and, ↓reduceIte, not_true_eq_false, not_false_eq_true] at *
        refine ⟨rfl, rfl, rfl, m_pq_eq (fun a j g1 g2 => by simp only [pv_u_app, g1, g2, ↓reduceIte]) ?_ ?_, rfl⟩
        · rw [← m_tp_eq]
          first | (simp only [m_tp, m_tq, *, pv_u_app, pv_ur_app, Nat.reduceEqDiff, and_self, and_true, true_and, and_false, false_and, ↓reduceIte, not_true_eq_false, not_false_eq_true]; done) | (simp [m_tp, m_tq, pv_u_app, *]; done) | (simp_all [m_tp, m_tq, pv_u_app]; done)
        · rw [← m_tq_eq]
          first | (simp only [m_tq, *, pv_u_app, pv_ur_app, Nat.reduceEqDiff, and_self, and_true, true_and, and_false, false_and, ↓reduceIte, not_true_eq_false, not_false_eq_true]; done) | (simp [m_tq, pv_u_app, *]; done) | (simp_all [m_tq, pv_u_app]; done)
      · refine pv_aload_0 (pc := 52) dX12_turns_52 ?_
        refine pv_lconst (pc := 53) (v := 1) dX12_turns_53 (by decide) ?_
        refine pv_putL (pc := 54) dX12_turns_54 fl_X12_150_12 (fun q => by cases q) (by decide) (sx_61 hT) ?_
        refine pv_vret (pc := 57) dX12_turns_57 rfl ?_
        simp only [pv_u_app, pv_ur_app, Nat.reduceEqDiff, and_self, and_true, true_and, and_false, false_and, ↓reduceIte, not_true_eq_false, not_false_eq_true] at *
        refine ⟨rfl, rfl, rfl, m_pq_eq (fun a j g1 g2 => by simp only [pv_u_app, g1, g2, ↓reduceIte]) ?_ ?_, rfl⟩
        · rw [← m_tp_eq]
          first | (simp only [m_tp, m_tq, *, pv_u_app, pv_ur_app, Nat.reduceEqDiff, and_self, and_true, true_and, and_false, false_and, ↓reduceIte, not_true_eq_false, not_false_eq_true]; done) | (simp [m_tp, m_tq, pv_u_app, *]; done) | (simp_all [m_tp, m_tq, pv_u_app]; done)
        · rw [← m_tq_eq]
          first | (simp only [m_tq, *, pv_u_app, pv_ur_app, Nat.reduceEqDiff, and_self, and_true, true_and, and_false, false_and, ↓reduceIte, not_true_eq_false, not_false_eq_true]; done) | (simp [m_tq, pv_u_app, *]; done) | (simp_all [m_tq, pv_u_app]; done)
  · refine pv_aload_0 (pc := 12) dX12_turns_12 ?_
    refine pv_getL (pc := 13) dX12_turns_13 fg_X12_153_12 (by decide) (sx_61 hT) ?_
    refine pv_lneg (pc := 16) dX12_turns_16 ?_
    refine pv_goto (pc := 17) (tgt := 24) dX12_turns_17 (by decide) ?_
    refine pv_putL (pc := 24) dX12_turns_24 fl_X12_150_12 (fun q => by cases q) (by decide) (sx_61 hT) ?_
    refine pv_aload_0 (pc := 27) dX12_turns_27 ?_
    refine pv_lload_1 (pc := 28) dX12_turns_28 ?_
    refine pv_lconst (pc := 29) (v := 0) dX12_turns_29 (by decide) ?_
    refine pv_lcmp_ge (pc := 30) (tgt := 39) dX12_turns_30 dX12_turns_31 (by decide) (fun h30 => ?_) (fun h30 => ?_)
    · refine pv_lload_1 (pc := 39) dX12_turns_39 ?_
      refine pv_putL (pc := 40) dX12_turns_40 fl_X12_153_12 (fun q => by cases q) (by decide) (sx_61 hT) ?_
      refine pv_aload_0 (pc := 43) dX12_turns_43 ?_
      refine pv_getL (pc := 44) dX12_turns_44 fg_X12_153_12 (by decide) (sx_61 hT) ?_
      refine pv_lconst (pc := 47) (v := 0) dX12_turns_47 (by decide) ?_
      refine pv_lcmp_ne (pc := 48) (tgt := 57) dX12_turns_48 dX12_turns_49 (by decide) (fun h48 => ?_) (fun h48 => ?_)
      · refine pv_vret (pc := 57) dX12_turns_57 rfl ?_
        simp only [pv_u_app, pv_ur_app, Nat.reduceEqDiff, and_self, and_true, true_and, and_false, false_and, ↓reduceIte, not_true_eq_false, not_false_eq_true] at *
        refine ⟨rfl, rfl, rfl, m_pq_eq (fun a j g1 g2 => by simp only [pv_u_app, g1, g2, ↓reduceIte]) ?_ ?_, rfl⟩
        · rw [← m_tp_eq]
          first | (simp only [m_tp, m_tq, *, pv_u_app, pv_ur_app, Nat.reduceEqDiff, and_self, and_true, true_and, and_false, false_and, ↓reduceIte, not_true_eq_false, not_false_eq_true]; done) | (simp [m_tp, m_tq, pv_u_app, *]; done) | (simp_all [m_tp, m_tq, pv_u_app]; done)
        · rw [← m_tq_eq]
          first | (simp only [m_tq, *, pv_u_app, pv_ur_app, Nat.reduceEqDiff, and_self, and_true, true_and, and_false, false_and, ↓reduceIte, not_true_eq_false, not_false_eq_true]; done) | (simp [m_tq, pv_u_app, *]; done) | (simp_all [m_tq, pv_u_app]; done)
      · refine pv_aload_0 (pc := 52) dX12_turns_52 ?_
        refine pv_lconst (pc := 53) (v := 1) dX12_turns_53 (by decide) ?_
        refine pv_putL (pc := 54) dX12_turns_54 fl_X12_150_12 (fun q => by cases q) (by decide) (sx_61 hT) ?_
        refine pv_vret (pc := 57) dX12_turns_57 rfl ?_
        simp only [pv_u_app, pv_ur_app, Nat.reduceEqDiff, and_self, and_true, true_and, and_false, false_and, ↓reduceIte, not_true_eq_false, not_false_eq_true] at *
        refine ⟨rfl, rfl, rfl, m_pq_eq (fun a j g1 g2 => by simp only [pv_u_app, g1, g2, ↓reduceIte]) ?_ ?_, rfl⟩
        · rw [← m_tp_eq]
          first | (simp only [m_tp, m_tq, *, pv_u_app, pv_ur_app, Nat.reduceEqDiff, and_self, and_true, true_and, and_false, false_and, ↓reduceIte, not_true_eq_false, not_false_eq_true]; done) | (simp [m_tp, m_tq, pv_u_app, *]; done) | (simp_all [m_tp, m_tq, pv_u_app]; done)
        · rw [← m_tq_eq]
          first | (simp only [m_tq, *, pv_u_app, pv_ur_app, Nat.reduceEqDiff, and_self, and_true, true_and, and_false, false_and, ↓reduceIte, not_true_eq_false, not_false_eq_true]; done) | (simp [m_tq, pv_u_app, *]; done) | (simp_all [m_tq, pv_u_app]; done)
    · refine pv_lload_1 (pc := 34) dX12_turns_34 ?_
      refine pv_lneg (pc := 35) dX12_turns_35 ?_
      refine pv_goto (pc := 36) (tgt := 40) dX12_turns_36 (by decide) ?_
      refine pv_putL (pc := 40) dX12_turns_40 fl_X12_153_12 (fun q => by cases q) (by decide) (sx_61 hT) ?_
      refine pv_aload_0 (pc := 43) dX12_turns_43 ?_
      refine pv_getL (pc := 44) dX12_turns_44 fg_X12_153_12 (by decide) (sx_61 hT) ?_
      refine pv_lconst (pc := 47) (v := 0) dX12_turns_47 (by decide) ?_
      refine pv_lcmp_ne (pc := 48) (tgt := 57) dX12_turns_48 dX12_turns_49 (by decide) (fun h48 => ?_) (fun h48 => ?_)
      · refine pv_vret (pc := 57) dX12_turns_57 rfl ?_
        simp only [pv_u_app, pv_ur_app, Nat.reduceEqDiff, and_self, and_true, true_and, and_false, false_and, ↓reduceIte, not_true_eq_false, not_false_eq_true] at *
        refine ⟨rfl, rfl, rfl, m_pq_eq (fun a j g1 g2 => by simp only [pv_u_app, g1, g2, ↓reduceIte]) ?_ ?_, rfl⟩
        · rw [← m_tp_eq]
          first | (simp only [m_tp, m_tq, *, pv_u_app, pv_ur_app, Nat.reduceEqDiff, and_self, and_true, true_and, and_false, false_and, ↓reduceIte, not_true_eq_false, not_false_eq_true]; done) | (simp [m_tp, m_tq, pv_u_app, *]; done) | (simp_all [m_tp, m_tq, pv_u_app]; done)
        · rw [← m_tq_eq]
          first | (simp only [m_tq, *, pv_u_app, pv_ur_app, Nat.reduceEqDiff, and_self, and_true, true_and, and_false, false_and, ↓reduceIte, not_true_eq_false, not_false_eq_true]; done) | (simp [m_tq, pv_u_app, *]; done) | (simp_all [m_tq, pv_u_app]; done)
      · refine pv_aload_0 (pc := 52) dX12_turns_52 ?_
        refine pv_lconst (pc := 53) (v := 1) dX12_turns_53 (by decide) ?_
        refine pv_putL (pc := 54) dX12_turns_54 fl_X12_150_12 (fun q => by cases q) (by decide) (sx_61 hT) ?_
        refine pv_vret (pc := 57) dX12_turns_57 rfl ?_
        simp only [pv_u_app, pv_ur_app, Nat.reduceEqDiff, and_self, and_true, true_and, and_false, false_and, ↓reduceIte, not_true_eq_false, not_false_eq_true] at *
        refine ⟨rfl, rfl, rfl, m_pq_eq (fun a j g1 g2 => by simp only [pv_u_app, g1, g2, ↓reduceIte]) ?_ ?_, rfl⟩
        · rw [← m_tp_eq]
          first | (simp only [m_tp, m_tq, *, pv_u_app, pv_ur_app, Nat.reduceEqDiff, and_self, and_true, true_and, and_false, false_and, ↓reduceIte, not_true_eq_false, not_false_eq_true]; done) | (simp [m_tp, m_tq, pv_u_app, *]; done) | (simp_all [m_tp, m_tq, pv_u_app]; done)
        · rw [← m_tq_eq]
          first | (simp only [m_tq, *, pv_u_app, pv_ur_app, Nat.reduceEqDiff, and_self, and_true, true_and, and_false, false_and, ↓reduceIte, not_true_eq_false, not_false_eq_true]; done) | (simp [m_tq, pv_u_app, *]; done) | (simp_all [m_tq, pv_u_app]; done)

