/-! forgot, may -/
theorem fg_ne {C : Nat → Int64} : ∀ {m i : Nat} {p q : Int64} {ml ml1 : ML}, w_fgt C m i p q ml = some ml1 → 1 ≤ ml1.length
  | 0, i, p, q, ml, ml1, h => by
    rw [w_fgt] at h
    cases h
    split
    · rename_i hm; exact List.length_pos_of_mem hm
    · rw [List.length_append, List.length_singleton]; omega
  | m + 1, i, p, q, ml, ml1, h => by
    rw [w_fgt] at h
    by_cases h3 : (C i).toInt32 = 3
    · rw [if_pos h3] at h
      split at h
      · split at h
        · cases h
        · rename_i ml2 h2
          split at h
          · exact fg_ne h
          · cases h
      · cases h
    · rw [if_neg h3] at h
      split at h
      · exact fg_ne h
      · cases h
theorem n_step1 {p q : Int64} {s : Int32} (hs : s = 0 ∨ s = 1 ∨ s = 2) (h : n_ok p q) (hr : s_room (s_stepP s p q) (s_stepQ s p q) = true) : n_ok (s_stepP s p q) (s_stepQ s p q) := by
  obtain ⟨h1, h2, h3, h4, h5⟩ := h
  simp only [s_room, Bool.and_eq_true, decide_eq_true_eq, l64_le, (show (1000000000000 : Int64).toInt = 1000000000000 from by decide), (show ((-1000000000000) : Int64).toInt = (-1000000000000) from by decide)] at hr
  obtain ⟨⟨r1, r2⟩, r3⟩ := hr
  have a1 := l64_add (x := p) (y := q) (by omega) (by omega)
  have a2 := l64_sub (x := p) (y := q) (by omega) (by omega)
  have a3 : (-p).toInt = -p.toInt := l64_neg (by omega)
  have a4 : (-q).toInt = -q.toInt := l64_neg (by omega)
  have e0 : s_stepP 0 p q = p + q := rfl
  have e1 : s_stepP 1 p q = p - q := rfl
  have f0 : s_stepQ 0 p q = q := rfl
  have f1 : s_stepQ 1 p q = q := rfl
  have e2 : s_stepP 2 p q = if p = 0 then 1 else if 0 < p then -q else q := rfl
  have f2 : s_stepQ 2 p q = if 0 < p then p else -p := rfl
  rcases hs with rfl | rfl | rfl
  · rw [e0, f0] at *
    exact ⟨h1, r3, r2, r1, fun q0 => by have := h5 q0; omega⟩
  · rw [e1, f1] at *
    exact ⟨h1, r3, r2, r1, fun q0 => by have := h5 q0; omega⟩
  · rw [e2, f2] at *
    unfold n_ok
    by_cases g : p = 0
    · rw [if_pos g] at *
      subst g
      rw [if_neg (by decide)] at *
      exact ⟨by decide, by decide, by decide, by decide, fun _ => by decide⟩
    · rw [if_neg g] at *
      have g1 := l64_n0.mp g
      by_cases g2 : 0 < p
      · simp only [if_pos g2] at r1 r2 r3 ⊢
        rw [l64_lt, l64_0] at g2
        refine ⟨by omega, r3, r2, r1, fun q0 => by omega⟩
      · simp only [if_neg g2] at r1 r2 r3 ⊢
        rw [l64_lt, l64_0] at g2
        refine ⟨by omega, r3, r2, r1, fun q0 => by omega⟩
theorem fg_ok {C : Nat → Int64} : ∀ {m i : Nat} {p q : Int64} {ml ml1 : ML}, (∀ j, i ≤ j → j < i + m → (C j).toInt32 = 0 ∨ (C j).toInt32 = 1 ∨ (C j).toInt32 = 2 ∨ (C j).toInt32 = 3) → n_ok p q → (∀ x ∈ ml, n_ok x.1 x.2) → w_fgt C m i p q ml = some ml1 → ∀ x ∈ ml1, n_ok x.1 x.2
  | 0, i, p, q, ml, ml1, hv, hn, hl, h => by
    rw [w_fgt] at h
    cases h
    intro x hx
    split at hx
    · exact hl x hx
    · rw [List.mem_append, List.mem_singleton] at hx
      rcases hx with g | g
      · exact hl x g
      · rw [g]; exact hn
  | m + 1, i, p, q, ml, ml1, hv, hn, hl, h => by
    rw [w_fgt] at h
    have hv1 := hv i (Nat.le_refl _) (by omega)
    have hv2 : ∀ j, i + 1 ≤ j → j < i + 1 + m → (C j).toInt32 = 0 ∨ (C j).toInt32 = 1 ∨ (C j).toInt32 = 2 ∨ (C j).toInt32 = 3 := fun j h1 h2 => hv j (by omega) (by omega)
    by_cases h3 : (C i).toInt32 = 3
    · rw [if_pos h3] at h
      split at h
      · rename_i r0
        split at h
        · cases h
        · rename_i ml2 h2
          split at h
          · rename_i r1
            exact fg_ok hv2 (n_step1 (Or.inr (Or.inl rfl)) hn r1) (fg_ok hv2 (n_step1 (Or.inl rfl) hn r0) hl h2) h
          · cases h
      · cases h
    · rw [if_neg h3] at h
      split at h
      · rename_i r0
        exact fg_ok hv2 (n_step1 (by rcases hv1 with g | g | g | g; exact Or.inl g; exact Or.inr (Or.inl g); exact Or.inr (Or.inr g); exact absurd g h3) hn r0) hl h
      · cases h
def w_val (C : Nat → Int64) : Nat → Bool
  | 0 => true
  | m + 1 => w_val C m && !decide ((C m).toInt32 < 0) && !decide (3 < (C m).toInt32)
def w_vals (C : Nat → Int64) (n : Nat) : Prop := ∀ j, j < n → ¬ (C j).toInt32 < 0 ∧ ¬ 3 < (C j).toInt32
theorem w_val_iff (C : Nat → Int64) : ∀ n, w_val C n = true ↔ w_vals C n
  | 0 => ⟨fun _ i h => absurd h (Nat.not_lt_zero i), fun _ => rfl⟩
  | n + 1 => by
    have ih := w_val_iff C n
    simp only [w_val, Bool.and_eq_true, Bool.not_eq_true', decide_eq_false_iff_not, ih]
    constructor
    · rintro ⟨⟨h1, h2⟩, h3⟩ i hi
      by_cases e : i = n
      · rw [e]; exact ⟨h2, h3⟩
      · exact h1 i (by omega)
    · intro h
      exact ⟨⟨fun i hi => h i (by omega), (h n (by omega)).1⟩, (h n (by omega)).2⟩
theorem w_val_c {v : Int32} (h1 : ¬ v < 0) (h2 : ¬ 3 < v) : v = 0 ∨ v = 1 ∨ v = 2 ∨ v = 3 := by
  simp only [i_lt, ← Int32.toInt_inj, (show (0 : Int32).toInt = 0 from by decide), (show (1 : Int32).toInt = 1 from by decide), (show (2 : Int32).toInt = 2 from by decide), (show (3 : Int32).toInt = 3 from by decide)] at *
  omega
def w_fbar (J : pv_I) (K : pv_L) (s n : Int32) : Int32 := if w_bars J s n = 0 then (if 40 < n then -6 else if w_val (K (1 + s.toNatClampNeg)) n.toNatClampNeg = true then (if 7 < w_thr (K (1 + s.toNatClampNeg)) n.toNatClampNeg 0 then -7 else if (w_fgt (K (1 + s.toNatClampNeg)) n.toNatClampNeg 0 (K 0 0) (K 0 1) []).isSome = true then 0 else -7) else -6) else w_bars J s n
def w_fml (J : pv_I) (K : pv_L) (s n : Int32) : ML := (w_fgt (K (1 + s.toNatClampNeg)) n.toNatClampNeg 0 (K 0 0) (K 0 1) []).getD []
theorem w_fbar_c (J : pv_I) (K : pv_L) (s n : Int32) : w_fbar J K s n = 0 ∨ w_fbar J K s n = -1 ∨ w_fbar J K s n = -2 ∨ w_fbar J K s n = -3 ∨ w_fbar J K s n = -4 ∨ w_fbar J K s n = -5 ∨ w_fbar J K s n = -6 ∨ w_fbar J K s n = -7 := by
  unfold w_fbar
  by_cases h : w_bars J s n = 0
  · rw [if_pos h]
    split
    · simp
    · split
      · split
        · simp
        · split <;> simp
      · simp
  · rw [if_neg h]
    rcases w_bars_c J s n with q | q | q | q | q | q <;> simp [q]
theorem w_fbar_in (J : pv_I) (K : pv_L) (s n : Int32) : vp_in (-(w_fbar J K s n)) 8 := by
  rcases w_fbar_c J K s n with q | q | q | q | q | q | q | q <;> (rw [q]; unfold vp_in; decide)
theorem w_fbar_n (J : pv_I) (K : pv_L) (s n : Int32) : (-(w_fbar J K s n)).toNatClampNeg < 8 := (pv_in_lt (w_fbar_in J K s n)).2.2.1
theorem w_fbar_0 {J : pv_I} {K : pv_L} {s n : Int32} (hW : WF J K) (h : w_fbar J K s n = 0) : w_fgt (K (1 + s.toNatClampNeg)) n.toNatClampNeg 0 (K 0 0) (K 0 1) [] = some (w_fml J K s n) ∧ 1 ≤ (w_fml J K s n).length ∧ (w_fml J K s n).length ≤ 128 ∧ ∀ x ∈ w_fml J K s n, n_ok x.1 x.2 := by
  unfold w_fbar at h
  split at h
  · split at h
    · exact absurd h (by decide)
    · split at h
      · rename_i hv
        split at h
        · exact absurd h (by decide)
        · rename_i ht
          split at h
          · rename_i hs
            obtain ⟨ml, hl⟩ := Option.isSome_iff_exists.mp hs
            have e : w_fml J K s n = ml := by unfold w_fml; rw [hl]; rfl
            rw [e]
            have l1 := (fg_len hl).1
            have l2 : 2 ^ w_thr (K (1 + s.toNatClampNeg)) n.toNatClampNeg 0 ≤ 2 ^ 7 := Nat.pow_le_pow_right (by decide) (by omega)
            rw [List.length_nil] at l1
            refine ⟨hl, fg_ne hl, by omega, fg_ok (fun j h1 h2 => ?_) ?_ (fun x hx => by cases hx) hl⟩
            · have := (w_val_iff _ _).mp hv j (by omega)
              exact w_val_c this.1 this.2
            · obtain ⟨a1, a2, a3, a4, a5⟩ := hW.2.2.1
              exact ⟨a1, a2, a3, a4, fun q0 => by rw [if_pos q0] at a5; omega⟩
          · exact absurd h (by decide)
      · exact absurd h (by decide)
  · rename_i g; exact absurd h g

set_option maxRecDepth 100000 in
set_option maxHeartbeats 4000000 in
theorem l_fgo {G : pv_G} {d : Nat} {Q : pv_Q} {J : pv_I} {K : pv_L} {s n z3 : Int32} {tot : Nat} {t : pv_T} {I : pv_I} {L : pv_L} {Rf : pv_R} (hT : sh_ok t) (hR : rf_ok Rf) (hM : RM J K I L) (hs : vp_in s 8) (h0 : 0 ≤ n.toInt) (hn : n.toInt ≤ 40) (hd : 6 ≤ d)
    (hyes : w_vals (K (1 + s.toNatClampNeg)) n.toNatClampNeg → ∀ l5 l6, pv_V G mX12_forgotten d 0 0 Q 0 0 72 [.ref 61, .int s, .int n, .int z3, .int (Int32.ofNat tot), l5, l6] [] t I L Rf) (hno : ¬ w_vals (K (1 + s.toNatClampNeg)) n.toNatClampNeg → Q (some (.int (-6))) t I L Rf) : ∀ (m i c : Nat) (l6 : Value), i + m = n.toNatClampNeg → (∀ j, j < i → ¬ (K (1 + s.toNatClampNeg) j).toInt32 < 0 ∧ ¬ 3 < (K (1 + s.toNatClampNeg) j).toInt32) → c + w_thr (K (1 + s.toNatClampNeg)) m i = tot → c ≤ i →
    pv_V G mX12_forgotten d 0 0 Q 0 0 28 [.ref 61, .int s, .int n, .int z3, .int (Int32.ofNat c), .int (Int32.ofNat i), l6] [] t I L Rf := by
  intro m
  induction m with
  | zero =>
    intro i c l6 hm hf hc hci
    have hnl := i_lit n
    refine pv_iload_5 (pc := 28) dX12_forgotten_28 ?_
    refine pv_iload_2 (pc := 30) dX12_forgotten_30 ?_
    refine pv_icmp_ge (pc := 31) (tgt := 72) dX12_forgotten_31 (by decide) (fun h31 => ?_) (fun h31 => absurd h31 (by rw [i_lt, i_of (by omega)]; omega))
    rw [w_thr, Nat.add_zero] at hc
    rw [hc]
    exact hyes (fun j hj => hf j (by omega)) _ _
  | succ m ih =>
    intro i c l6 hm hf hc hci
    have hnl := i_lit n
    refine pv_iload_5 (pc := 28) dX12_forgotten_28 ?_
    refine pv_iload_2 (pc := 30) dX12_forgotten_30 ?_
    refine pv_icmp_ge (pc := 31) (tgt := 72) dX12_forgotten_31 (by decide) (fun h31 => absurd h31 (not_not_intro (by rw [i_lt, i_of (by omega)]; omega))) (fun h31 => ?_)
    refine pv_aload_0 (pc := 34) dX12_forgotten_34 ?_
    refine pv_iload_1 (pc := 35) dX12_forgotten_35 ?_
    refine pv_iload_5 (pc := 36) dX12_forgotten_36 ?_
    refine pv_callV1 (pc := 38) dX12_forgotten_38 mgX12_intAt lv_X12_242_12 (by decide) (sx_61 hT) (by omega) (c_X12_intAt hT hR hs (i_in (k := i) (by omega) (by decide))) rfl rfl (by decide) ?_
    refine pv_topv2 (y := (K (1 + s.toNatClampNeg) i).toInt32) (by rw [i_nat (k := i) (by omega), hM.2.2.2.2.2.2.1 _ (pv_in_lt hs).2.2.1 i (by omega)]) ?_
    refine pv_istore_6 (pc := 41) dX12_forgotten_41 (by decide) rfl ?_
    refine pv_iload_6 (pc := 43) dX12_forgotten_43 ?_
    refine pv_if_lt (pc := 45) (tgt := 54) dX12_forgotten_45 (by decide) (fun h45 => ?_) (fun h45 => ?_)
    · refine pv_bipush (pc := 54) (v := (-6)) dX12_forgotten_54 (by decide) ?_
      refine pv_iret (pc := 56) dX12_forgotten_56 rfl rfl ?_
      exact hno (fun g => by first | exact (g i (by omega)).1 h45 | exact (g i (by omega)).2 h51)
    · refine pv_iload_6 (pc := 48) dX12_forgotten_48 ?_
      refine pv_iconst (pc := 50) (v := 3) dX12_forgotten_50 (by decide) ?_
      refine pv_icmp_le (pc := 51) (tgt := 57) dX12_forgotten_51 (by decide) (fun h51 => ?_) (fun h51 => ?_)
      · refine pv_iload_6 (pc := 57) dX12_forgotten_57 ?_
        refine pv_iconst (pc := 59) (v := 3) dX12_forgotten_59 (by decide) ?_
        refine pv_icmp_ne (pc := 60) (tgt := 66) dX12_forgotten_60 (by decide) (fun h60 => ?_) (fun h60 => ?_)
        · refine pv_iinc_5 (pc := 66) (v := _ + 1) dX12_forgotten_66 rfl (by decide) rfl ?_
          refine pv_goto (pc := 69) (tgt := 28) dX12_forgotten_69 (by decide) ?_
          rw [w_thr] at hc
          have hff : ∀ j, j < i + 1 → ¬ (K (1 + s.toNatClampNeg) j).toInt32 < 0 ∧ ¬ 3 < (K (1 + s.toNatClampNeg) j).toInt32 := fun j hj => by
            by_cases e : j = i
            · rw [e]; exact ⟨h45, h51⟩
            · exact hf j (by omega)
          first
            | (have f1 := h60; rw [i_inc, i_inc]; exact ih (i + 1) (c + 1) _ (by omega) hff (by rw [if_pos (by first | exact f1 | exact Classical.not_not.mp f1)] at hc; omega) (by omega))
            | (have f1 := h60; rw [i_inc]; exact ih (i + 1) c _ (by omega) hff (by rw [if_neg (by first | exact f1 | exact fun q => f1 (not_not_intro q))] at hc; omega) (by omega))
        · refine pv_iinc_4 (pc := 63) (v := _ + 1) dX12_forgotten_63 rfl (by decide) rfl ?_
          refine pv_iinc_5 (pc := 66) (v := _ + 1) dX12_forgotten_66 rfl (by decide) rfl ?_
          refine pv_goto (pc := 69) (tgt := 28) dX12_forgotten_69 (by decide) ?_
          rw [w_thr] at hc
          have hff : ∀ j, j < i + 1 → ¬ (K (1 + s.toNatClampNeg) j).toInt32 < 0 ∧ ¬ 3 < (K (1 + s.toNatClampNeg) j).toInt32 := fun j hj => by
            by_cases e : j = i
            · rw [e]; exact ⟨h45, h51⟩
            · exact hf j (by omega)
          first
            | (have f1 := h60; rw [i_inc, i_inc]; exact ih (i + 1) (c + 1) _ (by omega) hff (by rw [if_pos (by first | exact f1 | exact Classical.not_not.mp f1)] at hc; omega) (by omega))
            | (have f1 := h60; rw [i_inc]; exact ih (i + 1) c _ (by omega) hff (by rw [if_neg (by first | exact f1 | exact fun q => f1 (not_not_intro q))] at hc; omega) (by omega))
      · refine pv_bipush (pc := 54) (v := (-6)) dX12_forgotten_54 (by decide) ?_
        refine pv_iret (pc := 56) dX12_forgotten_56 rfl rfl ?_
        exact hno (fun g => by first | exact (g i (by omega)).1 h45 | exact (g i (by omega)).2 h51)

theorem w_thr_le (C : Nat → Int64) : ∀ m i, w_thr C m i ≤ m
  | 0, _ => Nat.le_refl _
  | m + 1, i => by
    have := w_thr_le C m (i + 1)
    rw [w_thr]; split <;> omega
set_option maxRecDepth 100000 in
set_option maxHeartbeats 4000000 in
theorem c_X12_forgotten {G : pv_G} {d : Nat} {J : pv_I} {K : pv_L} {s n : Int32} {t : pv_T} {I : pv_I} {L : pv_L} {Rf : pv_R} (hT : sh_ok t) (hR : rf_ok Rf) (hW : WF J K) (hM : RM J K I L) (hd : 60 ≤ d) : pv_Mt G mX12_forgotten d 0 0 [.ref 61, .int s, .int n] t I L Rf (fun v t1 I1 L1 R1 => v = some (.int (w_fbar J K s n)) ∧ t1 = t ∧ R1 = Rf ∧ kS I L I1 L1 ∧ (w_fbar J K s n = 0 → ms_ok I1 L1 (w_fml J K s n))) := by
  refine pv_mt mgX12_forgotten.2.2.2.2.2 [.ref 61, .int s, .int n, .retAddr 0, .retAddr 0, .retAddr 0, .retAddr 0] rfl (Nat.le_of_ble_eq_true rfl) ?_
  obtain ⟨⟨m0, m1, m2, m3, m4, m5, m6, m7, m8⟩, mf, mst, mh, mr, mt, mc, mi⟩ := id hM
  refine pv_aload_0 (pc := 0) dX12_forgotten_0 ?_
  refine pv_iload_1 (pc := 1) dX12_forgotten_1 ?_
  refine pv_iload_2 (pc := 2) dX12_forgotten_2 ?_
  refine pv_callV1 (pc := 3) dX12_forgotten_3 mgX12_bars lv_X12_254_12 (by decide) (sx_61 hT) (by omega) (c_X12_bars hT hR (by omega)) rfl rfl (by decide) ?_
  rw [hM.bars]
  refine pv_istore_3 (pc := 6) dX12_forgotten_6 (by decide) rfl ?_
  refine pv_iload_3 (pc := 7) dX12_forgotten_7 ?_
  refine pv_if_eq (pc := 8) (tgt := 13) dX12_forgotten_8 (by decide) (fun h8 => ?_) (fun h8 => ?_)
  · have hb := w_bars_0 hW h8
    refine pv_iload_2 (pc := 13) dX12_forgotten_13 ?_
    refine pv_bipush (pc := 14) (v := 40) dX12_forgotten_14 (by decide) ?_
    refine pv_icmp_le (pc := 16) (tgt := 22) dX12_forgotten_16 (by decide) (fun h16 => ?_) (fun h16 => ?_)
    · refine pv_iconst (pc := 22) (v := 0) dX12_forgotten_22 (by decide) ?_
      refine pv_istore_4 (pc := 23) dX12_forgotten_23 (by decide) rfl ?_
      refine pv_iconst (pc := 25) (v := 0) dX12_forgotten_25 (by decide) ?_
      refine pv_istore_5 (pc := 26) dX12_forgotten_26 (by decide) rfl ?_
      have hn40 : n.toInt ≤ 40 := (by have g := h16; rw [i_lt, show (40 : Int32).toInt = 40 by decide] at g; omega)
      have hnl := i_lit n
      have htl : w_thr (K (1 + s.toNatClampNeg)) n.toNatClampNeg 0 ≤ n.toNatClampNeg := w_thr_le _ _ _
      refine l_fgo (tot := w_thr (K (1 + s.toNatClampNeg)) n.toNatClampNeg 0) hT hR hM hb.1 hb.2.1 hn40 (by omega) (fun hv l5 l6 => ?_) (fun hv => ?_) n.toNatClampNeg 0 0 _ (by omega) (fun j hj => absurd hj (Nat.not_lt_zero j)) (Nat.zero_add _) (Nat.le_refl _)
      · skip
        refine pv_iload_4 (pc := 72) dX12_forgotten_72 ?_
        refine pv_bipush (pc := 74) (v := 7) dX12_forgotten_74 (by decide) ?_
        refine pv_icmp_le (pc := 76) (tgt := 82) dX12_forgotten_76 (by decide) (fun h76 => ?_) (fun h76 => ?_)
        · have h7 : w_thr (K (1 + s.toNatClampNeg)) n.toNatClampNeg 0 ≤ 7 := (by have g : ¬ (7 : Int32) < Int32.ofNat (w_thr (K (1 + s.toNatClampNeg)) n.toNatClampNeg 0) := h76; rw [i_lt, i_of (by omega), show (7 : Int32).toInt = 7 by decide] at g; omega)
          refine pv_aload_0 (pc := 82) dX12_forgotten_82 ?_
          refine pv_callV0 (pc := 83) dX12_forgotten_83 mgX12_begins lv_X12_230_12 (by decide) (sx_61 hT) (by omega) (n_begins hT hR hM) rfl rfl (by decide) ?_
          refine pv_aload_0 (pc := 86) dX12_forgotten_86 ?_
          refine pv_iconst (pc := 87) (v := 0) dX12_forgotten_87 (by decide) ?_
          refine pv_putI (pc := 88) dX12_forgotten_88 fl_X12_352_12 (fun q => by cases q) ⟨rfl, rfl, rfl⟩ (by decide) (sx_61 hT) ?_
          refine pv_aload_0 (pc := 91) dX12_forgotten_91 ?_
          refine pv_iload_1 (pc := 92) dX12_forgotten_92 ?_
          refine pv_iload_2 (pc := 93) dX12_forgotten_93 ?_
          refine pv_iconst (pc := 94) (v := 0) dX12_forgotten_94 (by decide) ?_
          refine pv_callVq (pc := 95) dX12_forgotten_95 mgX12_forgets lv_X12_355_12 (by decide) (sx_61 hT) (by omega) (l_fgt (C := K (1 + s.toNatClampNeg)) hT hR hb.1 hb.2.1 hn40 n.toNatClampNeg 0 (d - 1) (by omega) (by omega) _ _ (K 0 0) (K 0 1) [] (fun j hj => hM.2.2.2.2.2.2.1 _ (pv_in_lt hb.1).2.2.1 j hj) (fun j _ hj => w_val_c (hv j hj).1 (hv j hj).2) rfl rfl ⟨rfl, fun j x hx => by cases hx⟩ (by have l2 : 2 ^ w_thr (K (1 + s.toNatClampNeg)) n.toNatClampNeg 0 ≤ 2 ^ 7 := Nat.pow_le_pow_right (by decide) h7; rw [List.length_nil]; omega)) rfl rfl (by decide) (fun v t I L Rf hq => ?_)
          obtain ⟨rfl, rfl, rfl, hg, hh, hm1⟩ := hq
          have hkk := (((kS.rf.at _).pq _ _).uI 61 51 0 (by decide)).tr (g_kS hg hh)
          refine pv_if_eq (pc := 98) (tgt := 105) dX12_forgotten_98 (by decide) (fun h98 => ?_) (fun h98 => ?_)
          · refine pv_bipush (pc := 105) (v := (-7)) dX12_forgotten_105 (by decide) ?_
            refine pv_iret (pc := 107) dX12_forgotten_107 rfl rfl ?_
            first
              | (have f2 : ¬ pv_b (w_fgt (K (1 + s.toNatClampNeg)) n.toNatClampNeg 0 (K 0 0) (K 0 1) []).isSome = 0 := h98
                 have f1 := (pv_b_n0 _).mp f2
                 have e : w_fbar J K s n = 0 := (by unfold w_fbar; rw [if_pos h8, if_neg h16, if_pos ((w_val_iff _ _).mpr hv), if_neg (by omega), if_pos f1])
                 rw [e]
                 exact ⟨rfl, rfl, rfl, hkk, fun _ => (hm1 _ (w_fbar_0 hW e).1).1⟩)
              | (have f2 : pv_b (w_fgt (K (1 + s.toNatClampNeg)) n.toNatClampNeg 0 (K 0 0) (K 0 1) []).isSome = 0 := h98
                 have f1 := (pv_b_0 _).mp f2
                 have e : w_fbar J K s n = -7 := (by unfold w_fbar; rw [if_pos h8, if_neg h16, if_pos ((w_val_iff _ _).mpr hv), if_neg (by omega), if_neg (by rw [f1]; decide)])
                 rw [e]
                 exact ⟨rfl, rfl, rfl, hkk, fun q => absurd q (by decide)⟩)
          · refine pv_iconst (pc := 101) (v := 0) dX12_forgotten_101 (by decide) ?_
            refine pv_goto (pc := 102) (tgt := 107) dX12_forgotten_102 (by decide) ?_
            refine pv_iret (pc := 107) dX12_forgotten_107 rfl rfl ?_
            first
              | (have f2 : ¬ pv_b (w_fgt (K (1 + s.toNatClampNeg)) n.toNatClampNeg 0 (K 0 0) (K 0 1) []).isSome = 0 := h98
                 have f1 := (pv_b_n0 _).mp f2
                 have e : w_fbar J K s n = 0 := (by unfold w_fbar; rw [if_pos h8, if_neg h16, if_pos ((w_val_iff _ _).mpr hv), if_neg (by omega), if_pos f1])
                 rw [e]
                 exact ⟨rfl, rfl, rfl, hkk, fun _ => (hm1 _ (w_fbar_0 hW e).1).1⟩)
              | (have f2 : pv_b (w_fgt (K (1 + s.toNatClampNeg)) n.toNatClampNeg 0 (K 0 0) (K 0 1) []).isSome = 0 := h98
                 have f1 := (pv_b_0 _).mp f2
                 have e : w_fbar J K s n = -7 := (by unfold w_fbar; rw [if_pos h8, if_neg h16, if_pos ((w_val_iff _ _).mpr hv), if_neg (by omega), if_neg (by rw [f1]; decide)])
                 rw [e]
                 exact ⟨rfl, rfl, rfl, hkk, fun q => absurd q (by decide)⟩)
        · refine pv_bipush (pc := 79) (v := (-7)) dX12_forgotten_79 (by decide) ?_
          refine pv_iret (pc := 81) dX12_forgotten_81 rfl rfl ?_
          have e : w_fbar J K s n = -7 := by unfold w_fbar; rw [if_pos h8, if_neg h16, if_pos ((w_val_iff _ _).mpr hv), if_pos (by have g : (7 : Int32) < Int32.ofNat (w_thr (K (1 + s.toNatClampNeg)) n.toNatClampNeg 0) := h76; rw [i_lt, i_of (by omega), show (7 : Int32).toInt = 7 by decide] at g; omega)]
          rw [e]
          exact ⟨rfl, rfl, rfl, kS.rf, fun q => absurd q (by decide)⟩
      · have e : w_fbar J K s n = -6 := (by unfold w_fbar; rw [if_pos h8, if_neg h16, if_neg (fun g => hv ((w_val_iff _ _).mp g))])
        rw [e]
        exact ⟨rfl, rfl, rfl, kS.rf, fun q => absurd q (by decide)⟩
    · refine pv_bipush (pc := 19) (v := (-6)) dX12_forgotten_19 (by decide) ?_
      refine pv_iret (pc := 21) dX12_forgotten_21 rfl rfl ?_
      have e : w_fbar J K s n = -6 := by unfold w_fbar; rw [if_pos h8, if_pos h16]
      rw [e]
      exact ⟨rfl, rfl, rfl, kS.rf, fun q => absurd q (by decide)⟩
  · refine pv_iload_3 (pc := 11) dX12_forgotten_11 ?_
    refine pv_iret (pc := 12) dX12_forgotten_12 rfl rfl ?_
    have e : w_fbar J K s n = w_bars J s n := by unfold w_fbar; rw [if_neg h8]
    rw [e]
    exact ⟨rfl, rfl, rfl, kS.rf, fun q => absurd q h8⟩

def S_forgot (J : pv_I) (K : pv_L) (s n : Int32) : SR := if w_fbar J K s n = 0 then (.int (Int32.ofNat (w_fml J K s n).length), J, K) else S_ref J K (-(w_fbar J K s n)).toNatClampNeg (.int (w_fbar J K s n))
set_option maxRecDepth 100000 in
set_option maxHeartbeats 4000000 in
theorem c_X12_forgot {G : pv_G} {d : Nat} {J : pv_I} {K : pv_L} {s n : Int32} {t : pv_T} {I : pv_I} {L : pv_L} {Rf : pv_R} (hT : sh_ok t) (hR : rf_ok Rf) (hW : WF J K) (hM : RM J K I L) (hd61 : 61 ≤ d) : pv_Mt G mX12_forgot d 0 0 [.ref 61, .int s, .int n] t I L Rf (qM (S_forgot J K s n) t I L Rf) := by
  refine pv_mt mgX12_forgot.2.2.2.2.2 [.ref 61, .int s, .int n, .retAddr 0] rfl (Nat.le_of_ble_eq_true rfl) ?_
  have hd : 6 ≤ d := by omega
  obtain ⟨⟨m0, m1, m2, m3, m4, m5, m6, m7, m8⟩, mf, mst, mh, mr, mt, mc, mi⟩ := id hM
  refine pv_aload_0 (pc := 0) dX12_forgot_0 ?_
  refine pv_iload_1 (pc := 1) dX12_forgot_1 ?_
  refine pv_iload_2 (pc := 2) dX12_forgot_2 ?_
  refine pv_callVq (pc := 3) dX12_forgot_3 mgX12_forgotten lv_X12_359_12 (by decide) (sx_61 hT) (by omega) (c_X12_forgotten hT hR hW hM (by omega)) rfl rfl (by decide) (fun v t I L Rf hq => ?_)
  obtain ⟨rfl, rfl, rfl, hk, hms⟩ := hq
  refine pv_istore_3 (pc := 6) dX12_forgot_6 (by decide) rfl ?_
  refine pv_iload_3 (pc := 7) dX12_forgot_7 ?_
  refine pv_if_eq (pc := 8) (tgt := 19) dX12_forgot_8 (by decide) (fun h8 => ?_) (fun h8 => ?_)
  · refine pv_aload_0 (pc := 19) dX12_forgot_19 ?_
    refine pv_getI (pc := 20) dX12_forgot_20 fg_X12_352_12 rfl (by decide) (sx_61 hT) ?_
    refine pv_iret (pc := 23) dX12_forgot_23 rfl rfl ?_
    first
      | (have f1 := h8
         have g1 : w_fbar J K s n = 0 := by first | exact f1 | exact Classical.not_not.mp f1
         refine qM.scr hM hk ?_
         unfold S_forgot
         rw [if_pos g1, (hms g1).1])
      | (have f1 := h8
         refine qM.scrref hM hk (w_fbar_n J K s n) ?_
         unfold S_forgot
         rw [if_neg f1])
  · refine pv_aload_0 (pc := 11) dX12_forgot_11 ?_
    refine pv_iload_3 (pc := 12) dX12_forgot_12 ?_
    refine pv_callV1 (pc := 13) dX12_forgot_13 mgX12_no lv_X12_115_12 (by decide) (sx_61 hT) (by omega) (c_X12_no (k := (-(w_fbar J K s n)).toNatClampNeg) hT hR rfl (w_fbar_in J K s n)) rfl rfl (by decide) ?_
    refine pv_goto (pc := 16) (tgt := 23) dX12_forgot_16 (by decide) ?_
    refine pv_iret (pc := 23) dX12_forgot_23 rfl rfl ?_
    first
      | (have f1 := h8
         have g1 : w_fbar J K s n = 0 := by first | exact f1 | exact Classical.not_not.mp f1
         refine qM.scr hM hk ?_
         unfold S_forgot
         rw [if_pos g1, (hms g1).1])
      | (have f1 := h8
         refine qM.scrref hM hk (w_fbar_n J K s n) ?_
         unfold S_forgot
         rw [if_neg f1])

def s_ltp (x y : Int64 × Int64) : Bool := s_lt x.1 x.2 y.1 y.2
def w_bs1 (g : Bool) : Int64 × Int64 → ML → Int64 × Int64
  | y, [] => y
  | y, x :: l => w_bs1 g (if (if g then s_ltp x y else s_ltp y x) = true then x else y) l
theorem w_bs1_t (y x : Int64 × Int64) (l : ML) : w_bs1 true y (x :: l) = w_bs1 true (if s_ltp x y = true then x else y) l := rfl
theorem w_bs1_f (y x : Int64 × Int64) (l : ML) : w_bs1 false y (x :: l) = w_bs1 false (if s_ltp y x = true then x else y) l := rfl
def w_bst (g : Bool) : ML → Int64 × Int64
  | [] => (1, 0)
  | y :: l => w_bs1 g y l
def w_fb2 (J : pv_I) (K : pv_L) (s n x : Int32) : Int32 := if (w_fbar J K s n = 0 ∨ w_fbar J K s n < -5) ∧ (x < 0 ∨ 3 < x) then -5 else w_fbar J K s n
def S_may (J : pv_I) (K : pv_L) (s n x : Int32) : SR := if w_fb2 J K s n x = 0 then (.long (if x % 2 = 0 then (w_bst (decide (x < 2)) (w_fml J K s n)).1 else (w_bst (decide (x < 2)) (w_fml J K s n)).2), J, K) else S_ref J K (-(w_fb2 J K s n x)).toNatClampNeg (.long (-2000000000000 + (w_fb2 J K s n x).toInt64))
theorem w_fb2_in (J : pv_I) (K : pv_L) (s n x : Int32) : vp_in (-(w_fb2 J K s n x)) 8 := by
  unfold w_fb2
  split
  · unfold vp_in; decide
  · exact w_fbar_in J K s n
theorem w_fb2_n (J : pv_I) (K : pv_L) (s n x : Int32) : (-(w_fb2 J K s n x)).toNatClampNeg < 8 := (pv_in_lt (w_fb2_in J K s n x)).2.2.1
set_option maxRecDepth 100000 in
set_option maxHeartbeats 4000000 in
theorem l_may {G : pv_G} {d : Nat} {Q : pv_Q} {s n x z4 : Int32} {ml : ML} {r : Int64 × Int64} {t : pv_T} {I : pv_I} {L : pv_L} {Rf : pv_R} (hT : sh_ok t) (hR : rf_ok Rf) (hms : ms_ok I L ml) (hl : ml.length ≤ 128) (hok : ∀ x ∈ ml, n_ok x.1 x.2) (hd : 6 ≤ d)
    (hQ : Q (some (.long (if x % 2 = 0 then r.1 else r.2))) t I L Rf) : ∀ (m k b : Nat) (y : Int64 × Int64) (l7 l8 : Value), k + m = ml.length → b < ml.length → ml[b]? = some y → w_bs1 (decide (x < 2)) y (ml.drop k) = r →
    pv_V G mX12_may d 0 0 Q 0 0 51 [.ref 61, .int s, .int n, .int x, .int z4, .int (Int32.ofNat b), .int (Int32.ofNat k), l7, l8] [] t I L Rf := by
  intro m
  induction m with
  | zero =>
    intro k b y l7 l8 hm hbl hb hr
    refine pv_iload_6 (pc := 51) dX12_may_51 ?_
    refine pv_aload_0 (pc := 53) dX12_may_53 ?_
    refine pv_getI (pc := 54) dX12_may_54 fg_X12_352_12 rfl (by decide) (sx_61 hT) ?_
    refine pv_icmp_ge (pc := 57) (tgt := 156) dX12_may_57 (by decide) (fun h57 => ?_) (fun h57 => absurd h57 (by rw [hms.1, i_lt, i_of (by omega), i_of (by omega)]; omega))
    refine pv_iload_3 (pc := 156) dX12_may_156 ?_
    refine pv_iconst (pc := 157) (v := 2) dX12_may_157 (by decide) ?_
    refine pv_irem (pc := 158) dX12_may_158 (by decide) ?_
    refine pv_if_ne (pc := 159) (tgt := 172) dX12_may_159 (by decide) (fun h159 => ?_) (fun h159 => ?_)
    · refine pv_aload_0 (pc := 172) dX12_may_172 ?_
      refine pv_getR (pc := 173) dX12_may_173 fg_X12_88_12 rfl (by decide) (sx_61 hT) (rx_61_50 hR) ?_
      refine pv_iload_5 (pc := 176) dX12_may_176 ?_
      refine pv_laloadj (pc := 178) dX12_may_178 (by decide) (sx_84 hT) rfl (i_in (k := b) (by omega) (by decide)) ?_
      refine pv_lret (pc := 179) dX12_may_179 rfl ?_
      have ek := i_nat (k := b) (by omega)
      obtain ⟨b1, b2⟩ := hms.2 b y hb
      rw [List.drop_of_length_le (by omega)] at hr
      have hr : y = r := hr
      subst hr
      first
        | (have f1 := h159
           have g1 : x % 2 = 0 := by first | exact f1 | exact Classical.not_not.mp f1
           rw [ek, b1, if_pos g1] at *
           exact hQ)
        | (have f1 := h159
           rw [ek, b2] 
           rw [if_neg f1] at hQ
           exact hQ)
    · refine pv_aload_0 (pc := 162) dX12_may_162 ?_
      refine pv_getR (pc := 163) dX12_may_163 fg_X12_85_12 rfl (by decide) (sx_61 hT) (rx_61_49 hR) ?_
      refine pv_iload_5 (pc := 166) dX12_may_166 ?_
      refine pv_laloadj (pc := 168) dX12_may_168 (by decide) (sx_83 hT) rfl (i_in (k := b) (by omega) (by decide)) ?_
      refine pv_goto (pc := 169) (tgt := 179) dX12_may_169 (by decide) ?_
      refine pv_lret (pc := 179) dX12_may_179 rfl ?_
      have ek := i_nat (k := b) (by omega)
      obtain ⟨b1, b2⟩ := hms.2 b y hb
      rw [List.drop_of_length_le (by omega)] at hr
      have hr : y = r := hr
      subst hr
      first
        | (have f1 := h159
           have g1 : x % 2 = 0 := by first | exact f1 | exact Classical.not_not.mp f1
           rw [ek, b1, if_pos g1] at *
           exact hQ)
        | (have f1 := h159
           rw [ek, b2] 
           rw [if_neg f1] at hQ
           exact hQ)
  | succ m ih =>
    intro k b y l7 l8 hm hbl hb hr
    refine pv_iload_6 (pc := 51) dX12_may_51 ?_
    refine pv_aload_0 (pc := 53) dX12_may_53 ?_
    refine pv_getI (pc := 54) dX12_may_54 fg_X12_352_12 rfl (by decide) (sx_61 hT) ?_
    refine pv_icmp_ge (pc := 57) (tgt := 156) dX12_may_57 (by decide) (fun h57 => absurd h57 (not_not_intro (by rw [hms.1, i_lt, i_of (by omega), i_of (by omega)]; omega))) (fun h57 => ?_)
    have ek := i_nat (k := k) (by omega)
    have eb := i_nat (k := b) (by omega)
    obtain ⟨z, hz⟩ : ∃ z, ml[k]? = some z := ⟨ml[k]'(by omega), List.getElem?_eq_getElem (by omega)⟩
    obtain ⟨k1, k2⟩ := hms.2 k z hz
    obtain ⟨b1, b2⟩ := hms.2 b y hb
    have nk := hok z (List.mem_of_getElem? hz)
    have nb := hok y (List.mem_of_getElem? hb)
    have hdr : ml.drop k = z :: ml.drop (k + 1) := by
      rw [List.drop_eq_getElem_cons (by omega)]
      congr 1
      rw [List.getElem?_eq_getElem (by omega)] at hz
      exact Option.some.inj hz
    refine pv_aload_0 (pc := 60) dX12_may_60 ?_
    refine pv_aload_0 (pc := 61) dX12_may_61 ?_
    refine pv_getR (pc := 62) dX12_may_62 fg_X12_85_12 rfl (by decide) (sx_61 hT) (rx_61_49 hR) ?_
    refine pv_iload_6 (pc := 65) dX12_may_65 ?_
    refine pv_laloadj (pc := 67) dX12_may_67 (by decide) (sx_83 hT) rfl (i_in (k := k) (by omega) (by decide)) ?_
    refine pv_aload_0 (pc := 68) dX12_may_68 ?_
    refine pv_getR (pc := 69) dX12_may_69 fg_X12_88_12 rfl (by decide) (sx_61 hT) (rx_61_50 hR) ?_
    refine pv_iload_6 (pc := 72) dX12_may_72 ?_
    refine pv_laloadj (pc := 74) dX12_may_74 (by decide) (sx_84 hT) rfl (i_in (k := k) (by omega) (by decide)) ?_
    refine pv_aload_0 (pc := 75) dX12_may_75 ?_
    refine pv_getR (pc := 76) dX12_may_76 fg_X12_85_12 rfl (by decide) (sx_61 hT) (rx_61_49 hR) ?_
    refine pv_iload_5 (pc := 79) dX12_may_79 ?_
    refine pv_laloadj (pc := 81) dX12_may_81 (by decide) (sx_83 hT) rfl (i_in (k := b) (by omega) (by decide)) ?_
    refine pv_aload_0 (pc := 82) dX12_may_82 ?_
    refine pv_getR (pc := 83) dX12_may_83 fg_X12_88_12 rfl (by decide) (sx_61 hT) (rx_61_50 hR) ?_
    refine pv_iload_5 (pc := 86) dX12_may_86 ?_
    refine pv_laloadj (pc := 88) dX12_may_88 (by decide) (sx_84 hT) rfl (i_in (k := b) (by omega) (by decide)) ?_
    refine pv_callV1 (pc := 89) dX12_may_89 mgX12_isLess lv_X12_362_12 (by decide) (sx_61 hT) (by omega) (c_X12_isLess hT (by rw [ek, k1, k2]; exact nk) (by rw [eb, b1, b2]; exact nb) (by omega)) rfl rfl (by decide) ?_
    refine pv_istore_7 (pc := 92) dX12_may_92 (by decide) rfl ?_
    refine pv_aload_0 (pc := 94) dX12_may_94 ?_
    refine pv_aload_0 (pc := 95) dX12_may_95 ?_
    refine pv_getR (pc := 96) dX12_may_96 fg_X12_85_12 rfl (by decide) (sx_61 hT) (rx_61_49 hR) ?_
    refine pv_iload_5 (pc := 99) dX12_may_99 ?_
    refine pv_laloadj (pc := 101) dX12_may_101 (by decide) (sx_83 hT) rfl (i_in (k := b) (by omega) (by decide)) ?_
    refine pv_aload_0 (pc := 102) dX12_may_102 ?_
    refine pv_getR (pc := 103) dX12_may_103 fg_X12_88_12 rfl (by decide) (sx_61 hT) (rx_61_50 hR) ?_
    refine pv_iload_5 (pc := 106) dX12_may_106 ?_
    refine pv_laloadj (pc := 108) dX12_may_108 (by decide) (sx_84 hT) rfl (i_in (k := b) (by omega) (by decide)) ?_
    refine pv_aload_0 (pc := 109) dX12_may_109 ?_
    refine pv_getR (pc := 110) dX12_may_110 fg_X12_85_12 rfl (by decide) (sx_61 hT) (rx_61_49 hR) ?_
    refine pv_iload_6 (pc := 113) dX12_may_113 ?_
    refine pv_laloadj (pc := 115) dX12_may_115 (by decide) (sx_83 hT) rfl (i_in (k := k) (by omega) (by decide)) ?_
    refine pv_aload_0 (pc := 116) dX12_may_116 ?_
    refine pv_getR (pc := 117) dX12_may_117 fg_X12_88_12 rfl (by decide) (sx_61 hT) (rx_61_50 hR) ?_
    refine pv_iload_6 (pc := 120) dX12_may_120 ?_
    refine pv_laloadj (pc := 122) dX12_may_122 (by decide) (sx_84 hT) rfl (i_in (k := k) (by omega) (by decide)) ?_
    refine pv_callV1 (pc := 123) dX12_may_123 mgX12_isLess lv_X12_362_12 (by decide) (sx_61 hT) (by omega) (c_X12_isLess hT (by rw [eb, b1, b2]; exact nb) (by rw [ek, k1, k2]; exact nk) (by omega)) rfl rfl (by decide) ?_
    refine pv_istore_8 (pc := 126) dX12_may_126 (by decide) rfl ?_
    refine pv_iload_3 (pc := 128) dX12_may_128 ?_
    refine pv_iconst (pc := 129) (v := 2) dX12_may_129 (by decide) ?_
    refine pv_icmp_ge (pc := 130) (tgt := 141) dX12_may_130 (by decide) (fun h130 => ?_) (fun h130 => ?_)
    · refine pv_iload_8 (pc := 141) dX12_may_141 ?_
      refine pv_if_eq (pc := 143) (tgt := 150) dX12_may_143 (by decide) (fun h143 => ?_) (fun h143 => ?_)
      · refine pv_iinc_6 (pc := 150) (v := _ + 1) dX12_may_150 rfl (by decide) rfl ?_
        refine pv_goto (pc := 153) (tgt := 51) dX12_may_153 (by decide) ?_
        rw [hdr] at hr
        rw [i_inc]
        first
          | (have f0 := h130; have f1 := h135
             have g0 : x < 2 := by first | exact f0 | exact Classical.not_not.mp f0
             rw [ek, eb, k1, k2, b1, b2] at f1
             rw [decide_eq_true g0, w_bs1_t] at hr
             first
               | (have g1 : s_ltp z y = true := (pv_b_n0 _).mp f1
                  rw [if_pos g1] at hr
                  exact ih (k + 1) k z _ _ (by omega) (by omega) hz (by rw [decide_eq_true g0]; exact hr))
               | (have g1 : s_ltp z y = false := (pv_b_0 _).mp f1
                  rw [if_neg (by rw [g1]; decide)] at hr
                  exact ih (k + 1) b y _ _ (by omega) (by omega) hb (by rw [decide_eq_true g0]; exact hr)))
          | (have f0 := h130; have f1 := h143
             have g0 : ¬ x < 2 := by first | exact f0 | exact fun q => f0 (not_not_intro q)
             rw [eb, ek, b1, b2, k1, k2] at f1
             rw [decide_eq_false g0, w_bs1_f] at hr
             first
               | (have g1 : s_ltp y z = true := (pv_b_n0 _).mp f1
                  rw [if_pos g1] at hr
                  exact ih (k + 1) k z _ _ (by omega) (by omega) hz (by rw [decide_eq_false g0]; exact hr))
               | (have g1 : s_ltp y z = false := (pv_b_0 _).mp f1
                  rw [if_neg (by rw [g1]; decide)] at hr
                  exact ih (k + 1) b y _ _ (by omega) (by omega) hb (by rw [decide_eq_false g0]; exact hr)))
      · refine pv_iload_6 (pc := 146) dX12_may_146 ?_
        refine pv_istore_5 (pc := 148) dX12_may_148 (by decide) rfl ?_
        refine pv_iinc_6 (pc := 150) (v := _ + 1) dX12_may_150 rfl (by decide) rfl ?_
        refine pv_goto (pc := 153) (tgt := 51) dX12_may_153 (by decide) ?_
        rw [hdr] at hr
        rw [i_inc]
        first
          | (have f0 := h130; have f1 := h135
             have g0 : x < 2 := by first | exact f0 | exact Classical.not_not.mp f0
             rw [ek, eb, k1, k2, b1, b2] at f1
             rw [decide_eq_true g0, w_bs1_t] at hr
             first
               | (have g1 : s_ltp z y = true := (pv_b_n0 _).mp f1
                  rw [if_pos g1] at hr
                  exact ih (k + 1) k z _ _ (by omega) (by omega) hz (by rw [decide_eq_true g0]; exact hr))
               | (have g1 : s_ltp z y = false := (pv_b_0 _).mp f1
                  rw [if_neg (by rw [g1]; decide)] at hr
                  exact ih (k + 1) b y _ _ (by omega) (by omega) hb (by rw [decide_eq_true g0]; exact hr)))
          | (have f0 := h130; have f1 := h143
             have g0 : ¬ x < 2 := by first | exact f0 | exact fun q => f0 (not_not_intro q)
             rw [eb, ek, b1, b2, k1, k2] at f1
             rw [decide_eq_false g0, w_bs1_f] at hr
             first
               | (have g1 : s_ltp y z = true := (pv_b_n0 _).mp f1
                  rw [if_pos g1] at hr
                  exact ih (k + 1) k z _ _ (by omega) (by omega) hz (by rw [decide_eq_false g0]; exact hr))
               | (have g1 : s_ltp y z = false := (pv_b_0 _).mp f1
                  rw [if_neg (by rw [g1]; decide)] at hr
                  exact ih (k + 1) b y _ _ (by omega) (by omega) hb (by rw [decide_eq_false g0]; exact hr)))
    · refine pv_iload_7 (pc := 133) dX12_may_133 ?_
      refine pv_if_eq (pc := 135) (tgt := 150) dX12_may_135 (by decide) (fun h135 => ?_) (fun h135 => ?_)
      · refine pv_iinc_6 (pc := 150) (v := _ + 1) dX12_may_150 rfl (by decide) rfl ?_
        refine pv_goto (pc := 153) (tgt := 51) dX12_may_153 (by decide) ?_
        rw [hdr] at hr
        rw [i_inc]
        first
          | (have f0 := h130; have f1 := h135
             have g0 : x < 2 := by first | exact f0 | exact Classical.not_not.mp f0
             rw [ek, eb, k1, k2, b1, b2] at f1
             rw [decide_eq_true g0, w_bs1_t] at hr
             first
               | (have g1 : s_ltp z y = true := (pv_b_n0 _).mp f1
                  rw [if_pos g1] at hr
                  exact ih (k + 1) k z _ _ (by omega) (by omega) hz (by rw [decide_eq_true g0]; exact hr))
               | (have g1 : s_ltp z y = false := (pv_b_0 _).mp f1
                  rw [if_neg (by rw [g1]; decide)] at hr
                  exact ih (k + 1) b y _ _ (by omega) (by omega) hb (by rw [decide_eq_true g0]; exact hr)))
          | (have f0 := h130; have f1 := h143
             have g0 : ¬ x < 2 := by first | exact f0 | exact fun q => f0 (not_not_intro q)
             rw [eb, ek, b1, b2, k1, k2] at f1
             rw [decide_eq_false g0, w_bs1_f] at hr
             first
               | (have g1 : s_ltp y z = true := (pv_b_n0 _).mp f1
                  rw [if_pos g1] at hr
                  exact ih (k + 1) k z _ _ (by omega) (by omega) hz (by rw [decide_eq_false g0]; exact hr))
               | (have g1 : s_ltp y z = false := (pv_b_0 _).mp f1
                  rw [if_neg (by rw [g1]; decide)] at hr
                  exact ih (k + 1) b y _ _ (by omega) (by omega) hb (by rw [decide_eq_false g0]; exact hr)))
      · refine pv_goto (pc := 138) (tgt := 146) dX12_may_138 (by decide) ?_
        refine pv_iload_6 (pc := 146) dX12_may_146 ?_
        refine pv_istore_5 (pc := 148) dX12_may_148 (by decide) rfl ?_
        refine pv_iinc_6 (pc := 150) (v := _ + 1) dX12_may_150 rfl (by decide) rfl ?_
        refine pv_goto (pc := 153) (tgt := 51) dX12_may_153 (by decide) ?_
        rw [hdr] at hr
        rw [i_inc]
        first
          | (have f0 := h130; have f1 := h135
             have g0 : x < 2 := by first | exact f0 | exact Classical.not_not.mp f0
             rw [ek, eb, k1, k2, b1, b2] at f1
             rw [decide_eq_true g0, w_bs1_t] at hr
             first
               | (have g1 : s_ltp z y = true := (pv_b_n0 _).mp f1
                  rw [if_pos g1] at hr
                  exact ih (k + 1) k z _ _ (by omega) (by omega) hz (by rw [decide_eq_true g0]; exact hr))
               | (have g1 : s_ltp z y = false := (pv_b_0 _).mp f1
                  rw [if_neg (by rw [g1]; decide)] at hr
                  exact ih (k + 1) b y _ _ (by omega) (by omega) hb (by rw [decide_eq_true g0]; exact hr)))
          | (have f0 := h130; have f1 := h143
             have g0 : ¬ x < 2 := by first | exact f0 | exact fun q => f0 (not_not_intro q)
             rw [eb, ek, b1, b2, k1, k2] at f1
             rw [decide_eq_false g0, w_bs1_f] at hr
             first
               | (have g1 : s_ltp y z = true := (pv_b_n0 _).mp f1
                  rw [if_pos g1] at hr
                  exact ih (k + 1) k z _ _ (by omega) (by omega) hz (by rw [decide_eq_false g0]; exact hr))
               | (have g1 : s_ltp y z = false := (pv_b_0 _).mp f1
                  rw [if_neg (by rw [g1]; decide)] at hr
                  exact ih (k + 1) b y _ _ (by omega) (by omega) hb (by rw [decide_eq_false g0]; exact hr)))

set_option maxRecDepth 100000 in
set_option maxHeartbeats 4000000 in
theorem c_X12_may {G : pv_G} {d : Nat} {J : pv_I} {K : pv_L} {s n x : Int32} {t : pv_T} {I : pv_I} {L : pv_L} {Rf : pv_R} (hT : sh_ok t) (hR : rf_ok Rf) (hW : WF J K) (hM : RM J K I L) (hd61 : 61 ≤ d) : pv_Mt G mX12_may d 0 0 [.ref 61, .int s, .int n, .int x] t I L Rf (qM (S_may J K s n x) t I L Rf) := by
  refine pv_mt mgX12_may.2.2.2.2.2 [.ref 61, .int s, .int n, .int x, .retAddr 0, .retAddr 0, .retAddr 0, .retAddr 0, .retAddr 0] rfl (Nat.le_of_ble_eq_true rfl) ?_
  have hd : 6 ≤ d := by omega
  obtain ⟨⟨m0, m1, m2, m3, m4, m5, m6, m7, m8⟩, mf, mst, mh, mr, mt, mc, mi⟩ := id hM
  refine pv_aload_0 (pc := 0) dX12_may_0 ?_
  refine pv_iload_1 (pc := 1) dX12_may_1 ?_
  refine pv_iload_2 (pc := 2) dX12_may_2 ?_
  refine pv_callVq (pc := 3) dX12_may_3 mgX12_forgotten lv_X12_359_12 (by decide) (sx_61 hT) (by omega) (c_X12_forgotten hT hR hW hM (by omega)) rfl rfl (by decide) (fun v t I L Rf hq => ?_)
  obtain ⟨rfl, rfl, rfl, hk, hms⟩ := hq
  refine pv_istore_4 (pc := 6) dX12_may_6 (by decide) rfl ?_
  refine pv_iload_4 (pc := 8) dX12_may_8 ?_
  refine pv_if_eq (pc := 10) (tgt := 20) dX12_may_10 (by decide) (fun h10 => ?_) (fun h10 => ?_)
  · refine pv_iload_3 (pc := 20) dX12_may_20 ?_
    refine pv_if_lt (pc := 21) (tgt := 29) dX12_may_21 (by decide) (fun h21 => ?_) (fun h21 => ?_)
    · refine pv_bipush (pc := 29) (v := (-5)) dX12_may_29 (by decide) ?_
      refine pv_istore_4 (pc := 31) dX12_may_31 (by decide) rfl ?_
      refine pv_iload_4 (pc := 33) dX12_may_33 ?_
      refine pv_if_eq (pc := 35) (tgt := 45) dX12_may_35 (by decide) (fun q => absurd q (by decide)) (fun _ => ?_)
      refine pv_aload_0 (pc := 38) dX12_may_38 ?_
      refine pv_iload_4 (pc := 39) dX12_may_39 ?_
      refine pv_callV1 (pc := 41) dX12_may_41 mgX12_noLow lv_X12_226_12 (by decide) (sx_61 hT) (by omega) (c_X12_noLow (k := 5) hT hR (by decide) (by unfold vp_in; decide)) rfl rfl (by decide) ?_
      refine pv_lret (pc := 44) dX12_may_44 rfl ?_
      first
        | (have e : w_fb2 J K s n x = -5 := (by
             unfold w_fb2
             rw [if_pos ⟨(by first | exact Or.inr h17 | exact Or.inl h10 | exact Or.inl (Classical.not_not.mp h10)), (by first | exact Or.inl h21 | exact Or.inr h26)⟩])
           refine qM.scrref hM hk k_lt5b ?_
           unfold S_may
           rw [e, if_neg (by decide)]; rfl)
        | (have e : w_fb2 J K s n x = w_fbar J K s n := (by
             unfold w_fb2
             rw [if_neg (fun q => by first | exact q.2.elim h21 h26 | exact q.1.elim h10 h17)])
           refine qM.scrref hM hk (w_fbar_n J K s n) ?_
           unfold S_may
           rw [e, if_neg (by first | exact h35 | exact h10)])
    · refine pv_iload_3 (pc := 24) dX12_may_24 ?_
      refine pv_iconst (pc := 25) (v := 3) dX12_may_25 (by decide) ?_
      refine pv_icmp_le (pc := 26) (tgt := 33) dX12_may_26 (by decide) (fun h26 => ?_) (fun h26 => ?_)
      · refine pv_iload_4 (pc := 33) dX12_may_33 ?_
        refine pv_if_eq (pc := 35) (tgt := 45) dX12_may_35 (by decide) (fun h35 => ?_) (fun h35 => ?_)
        · refine pv_iconst (pc := 45) (v := 0) dX12_may_45 (by decide) ?_
          refine pv_istore_5 (pc := 46) dX12_may_46 (by decide) rfl ?_
          refine pv_iconst (pc := 48) (v := 1) dX12_may_48 (by decide) ?_
          refine pv_istore_6 (pc := 49) dX12_may_49 (by decide) rfl ?_
          have e : w_fbar J K s n = 0 := by first | exact h10 | exact Classical.not_not.mp h10 | exact h35 | exact Classical.not_not.mp h35
          have e2 : w_fb2 J K s n x = 0 := by
            unfold w_fb2
            rw [if_neg (fun q => by first | exact q.2.elim h21 h26 | exact q.1.elim h10 h17)]; exact e
          obtain ⟨g1, g2, g3, g4⟩ := w_fbar_0 hW e
          have hS : S_may J K s n x = (.long (if x % 2 = 0 then (w_bst (decide (x < 2)) (w_fml J K s n)).1 else (w_bst (decide (x < 2)) (w_fml J K s n)).2), J, K) := by unfold S_may; rw [if_pos e2]
          rw [hS]
          obtain ⟨y, l, hyl⟩ : ∃ y l, w_fml J K s n = y :: l := by
            cases hc : w_fml J K s n with
            | nil => rw [hc] at g2; exact absurd g2 (by decide)
            | cons y l => exact ⟨y, l, rfl⟩
          have hml := hms e
          refine l_may (r := w_bst (decide (x < 2)) (w_fml J K s n)) hT hR hml g3 g4 (by omega) (qM.scr hM hk rfl) ((w_fml J K s n).length - 1) 1 0 y _ _ (by omega) (by omega) (by rw [hyl]; rfl) (by rw [hyl]; rfl)
        · refine pv_aload_0 (pc := 38) dX12_may_38 ?_
          refine pv_iload_4 (pc := 39) dX12_may_39 ?_
          refine pv_callV1 (pc := 41) dX12_may_41 mgX12_noLow lv_X12_226_12 (by decide) (sx_61 hT) (by omega) (c_X12_noLow (k := (-(w_fbar J K s n)).toNatClampNeg) hT hR rfl (w_fbar_in J K s n)) rfl rfl (by decide) ?_
          refine pv_lret (pc := 44) dX12_may_44 rfl ?_
          first
            | (have e : w_fb2 J K s n x = -5 := (by
                 unfold w_fb2
                 rw [if_pos ⟨(by first | exact Or.inr h17 | exact Or.inl h10 | exact Or.inl (Classical.not_not.mp h10)), (by first | exact Or.inl h21 | exact Or.inr h26)⟩])
               refine qM.scrref hM hk k_lt5b ?_
               unfold S_may
               rw [e, if_neg (by decide)]; rfl)
            | (have e : w_fb2 J K s n x = w_fbar J K s n := (by
                 unfold w_fb2
                 rw [if_neg (fun q => by first | exact q.2.elim h21 h26 | exact q.1.elim h10 h17)])
               refine qM.scrref hM hk (w_fbar_n J K s n) ?_
               unfold S_may
               rw [e, if_neg (by first | exact h35 | exact h10)])
      · refine pv_bipush (pc := 29) (v := (-5)) dX12_may_29 (by decide) ?_
        refine pv_istore_4 (pc := 31) dX12_may_31 (by decide) rfl ?_
        refine pv_iload_4 (pc := 33) dX12_may_33 ?_
        refine pv_if_eq (pc := 35) (tgt := 45) dX12_may_35 (by decide) (fun q => absurd q (by decide)) (fun _ => ?_)
        refine pv_aload_0 (pc := 38) dX12_may_38 ?_
        refine pv_iload_4 (pc := 39) dX12_may_39 ?_
        refine pv_callV1 (pc := 41) dX12_may_41 mgX12_noLow lv_X12_226_12 (by decide) (sx_61 hT) (by omega) (c_X12_noLow (k := 5) hT hR (by decide) (by unfold vp_in; decide)) rfl rfl (by decide) ?_
        refine pv_lret (pc := 44) dX12_may_44 rfl ?_
        first
          | (have e : w_fb2 J K s n x = -5 := (by
               unfold w_fb2
               rw [if_pos ⟨(by first | exact Or.inr h17 | exact Or.inl h10 | exact Or.inl (Classical.not_not.mp h10)), (by first | exact Or.inl h21 | exact Or.inr h26)⟩])
             refine qM.scrref hM hk k_lt5b ?_
             unfold S_may
             rw [e, if_neg (by decide)]; rfl)
          | (have e : w_fb2 J K s n x = w_fbar J K s n := (by
               unfold w_fb2
               rw [if_neg (fun q => by first | exact q.2.elim h21 h26 | exact q.1.elim h10 h17)])
             refine qM.scrref hM hk (w_fbar_n J K s n) ?_
             unfold S_may
             rw [e, if_neg (by first | exact h35 | exact h10)])
  · refine pv_iload_4 (pc := 13) dX12_may_13 ?_
    refine pv_bipush (pc := 15) (v := (-5)) dX12_may_15 (by decide) ?_
    refine pv_icmp_ge (pc := 17) (tgt := 33) dX12_may_17 (by decide) (fun h17 => ?_) (fun h17 => ?_)
    · refine pv_iload_4 (pc := 33) dX12_may_33 ?_
      refine pv_if_eq (pc := 35) (tgt := 45) dX12_may_35 (by decide) (fun h35 => ?_) (fun h35 => ?_)
      · refine pv_iconst (pc := 45) (v := 0) dX12_may_45 (by decide) ?_
        refine pv_istore_5 (pc := 46) dX12_may_46 (by decide) rfl ?_
        refine pv_iconst (pc := 48) (v := 1) dX12_may_48 (by decide) ?_
        refine pv_istore_6 (pc := 49) dX12_may_49 (by decide) rfl ?_
        have e : w_fbar J K s n = 0 := by first | exact h10 | exact Classical.not_not.mp h10 | exact h35 | exact Classical.not_not.mp h35
        have e2 : w_fb2 J K s n x = 0 := by
          unfold w_fb2
          rw [if_neg (fun q => by first | exact q.2.elim h21 h26 | exact q.1.elim h10 h17)]; exact e
        obtain ⟨g1, g2, g3, g4⟩ := w_fbar_0 hW e
        have hS : S_may J K s n x = (.long (if x % 2 = 0 then (w_bst (decide (x < 2)) (w_fml J K s n)).1 else (w_bst (decide (x < 2)) (w_fml J K s n)).2), J, K) := by unfold S_may; rw [if_pos e2]
        rw [hS]
        obtain ⟨y, l, hyl⟩ : ∃ y l, w_fml J K s n = y :: l := by
          cases hc : w_fml J K s n with
          | nil => rw [hc] at g2; exact absurd g2 (by decide)
          | cons y l => exact ⟨y, l, rfl⟩
        have hml := hms e
        refine l_may (r := w_bst (decide (x < 2)) (w_fml J K s n)) hT hR hml g3 g4 (by omega) (qM.scr hM hk rfl) ((w_fml J K s n).length - 1) 1 0 y _ _ (by omega) (by omega) (by rw [hyl]; rfl) (by rw [hyl]; rfl)
      · refine pv_aload_0 (pc := 38) dX12_may_38 ?_
        refine pv_iload_4 (pc := 39) dX12_may_39 ?_
        refine pv_callV1 (pc := 41) dX12_may_41 mgX12_noLow lv_X12_226_12 (by decide) (sx_61 hT) (by omega) (c_X12_noLow (k := (-(w_fbar J K s n)).toNatClampNeg) hT hR rfl (w_fbar_in J K s n)) rfl rfl (by decide) ?_
        refine pv_lret (pc := 44) dX12_may_44 rfl ?_
        first
          | (have e : w_fb2 J K s n x = -5 := (by
               unfold w_fb2
               rw [if_pos ⟨(by first | exact Or.inr h17 | exact Or.inl h10 | exact Or.inl (Classical.not_not.mp h10)), (by first | exact Or.inl h21 | exact Or.inr h26)⟩])
             refine qM.scrref hM hk k_lt5b ?_
             unfold S_may
             rw [e, if_neg (by decide)]; rfl)
          | (have e : w_fb2 J K s n x = w_fbar J K s n := (by
               unfold w_fb2
               rw [if_neg (fun q => by first | exact q.2.elim h21 h26 | exact q.1.elim h10 h17)])
             refine qM.scrref hM hk (w_fbar_n J K s n) ?_
             unfold S_may
             rw [e, if_neg (by first | exact h35 | exact h10)])
    · refine pv_iload_3 (pc := 20) dX12_may_20 ?_
      refine pv_if_lt (pc := 21) (tgt := 29) dX12_may_21 (by decide) (fun h21 => ?_) (fun h21 => ?_)
      · refine pv_bipush (pc := 29) (v := (-5)) dX12_may_29 (by decide) ?_
        refine pv_istore_4 (pc := 31) dX12_may_31 (by decide) rfl ?_
        refine pv_iload_4 (pc := 33) dX12_may_33 ?_
        refine pv_if_eq (pc := 35) (tgt := 45) dX12_may_35 (by decide) (fun q => absurd q (by decide)) (fun _ => ?_)
        refine pv_aload_0 (pc := 38) dX12_may_38 ?_
        refine pv_iload_4 (pc := 39) dX12_may_39 ?_
        refine pv_callV1 (pc := 41) dX12_may_41 mgX12_noLow lv_X12_226_12 (by decide) (sx_61 hT) (by omega) (c_X12_noLow (k := 5) hT hR (by decide) (by unfold vp_in; decide)) rfl rfl (by decide) ?_
        refine pv_lret (pc := 44) dX12_may_44 rfl ?_
        first
          | (have e : w_fb2 J K s n x = -5 := (by
               unfold w_fb2
               rw [if_pos ⟨(by first | exact Or.inr h17 | exact Or.inl h10 | exact Or.inl (Classical.not_not.mp h10)), (by first | exact Or.inl h21 | exact Or.inr h26)⟩])
             refine qM.scrref hM hk k_lt5b ?_
             unfold S_may
             rw [e, if_neg (by decide)]; rfl)
          | (have e : w_fb2 J K s n x = w_fbar J K s n := (by
               unfold w_fb2
               rw [if_neg (fun q => by first | exact q.2.elim h21 h26 | exact q.1.elim h10 h17)])
             refine qM.scrref hM hk (w_fbar_n J K s n) ?_
             unfold S_may
             rw [e, if_neg (by first | exact h35 | exact h10)])
      · refine pv_iload_3 (pc := 24) dX12_may_24 ?_
        refine pv_iconst (pc := 25) (v := 3) dX12_may_25 (by decide) ?_
        refine pv_icmp_le (pc := 26) (tgt := 33) dX12_may_26 (by decide) (fun h26 => ?_) (fun h26 => ?_)
        · refine pv_iload_4 (pc := 33) dX12_may_33 ?_
          refine pv_if_eq (pc := 35) (tgt := 45) dX12_may_35 (by decide) (fun h35 => ?_) (fun h35 => ?_)
          · refine pv_iconst (pc := 45) (v := 0) dX12_may_45 (by decide) ?_
            refine pv_istore_5 (pc := 46) dX12_may_46 (by decide) rfl ?_
            refine pv_iconst (pc := 48) (v := 1) dX12_may_48 (by decide) ?_
            refine pv_istore_6 (pc := 49) dX12_may_49 (by decide) rfl ?_
            have e : w_fbar J K s n = 0 := by first | exact h10 | exact Classical.not_not.mp h10 | exact h35 | exact Classical.not_not.mp h35
            have e2 : w_fb2 J K s n x = 0 := by
              unfold w_fb2
              rw [if_neg (fun q => by first | exact q.2.elim h21 h26 | exact q.1.elim h10 h17)]; exact e
            obtain ⟨g1, g2, g3, g4⟩ := w_fbar_0 hW e
            have hS : S_may J K s n x = (.long (if x % 2 = 0 then (w_bst (decide (x < 2)) (w_fml J K s n)).1 else (w_bst (decide (x < 2)) (w_fml J K s n)).2), J, K) := by unfold S_may; rw [if_pos e2]
            rw [hS]
            obtain ⟨y, l, hyl⟩ : ∃ y l, w_fml J K s n = y :: l := by
              cases hc : w_fml J K s n with
              | nil => rw [hc] at g2; exact absurd g2 (by decide)
              | cons y l => exact ⟨y, l, rfl⟩
            have hml := hms e
            refine l_may (r := w_bst (decide (x < 2)) (w_fml J K s n)) hT hR hml g3 g4 (by omega) (qM.scr hM hk rfl) ((w_fml J K s n).length - 1) 1 0 y _ _ (by omega) (by omega) (by rw [hyl]; rfl) (by rw [hyl]; rfl)
          · refine pv_aload_0 (pc := 38) dX12_may_38 ?_
            refine pv_iload_4 (pc := 39) dX12_may_39 ?_
            refine pv_callV1 (pc := 41) dX12_may_41 mgX12_noLow lv_X12_226_12 (by decide) (sx_61 hT) (by omega) (c_X12_noLow (k := (-(w_fbar J K s n)).toNatClampNeg) hT hR rfl (w_fbar_in J K s n)) rfl rfl (by decide) ?_
            refine pv_lret (pc := 44) dX12_may_44 rfl ?_
            first
              | (have e : w_fb2 J K s n x = -5 := (by
                   unfold w_fb2
                   rw [if_pos ⟨(by first | exact Or.inr h17 | exact Or.inl h10 | exact Or.inl (Classical.not_not.mp h10)), (by first | exact Or.inl h21 | exact Or.inr h26)⟩])
                 refine qM.scrref hM hk k_lt5b ?_
                 unfold S_may
                 rw [e, if_neg (by decide)]; rfl)
              | (have e : w_fb2 J K s n x = w_fbar J K s n := (by
                   unfold w_fb2
                   rw [if_neg (fun q => by first | exact q.2.elim h21 h26 | exact q.1.elim h10 h17)])
                 refine qM.scrref hM hk (w_fbar_n J K s n) ?_
                 unfold S_may
                 rw [e, if_neg (by first | exact h35 | exact h10)])
        · refine pv_bipush (pc := 29) (v := (-5)) dX12_may_29 (by decide) ?_
          refine pv_istore_4 (pc := 31) dX12_may_31 (by decide) rfl ?_
          refine pv_iload_4 (pc := 33) dX12_may_33 ?_
          refine pv_if_eq (pc := 35) (tgt := 45) dX12_may_35 (by decide) (fun q => absurd q (by decide)) (fun _ => ?_)
          refine pv_aload_0 (pc := 38) dX12_may_38 ?_
          refine pv_iload_4 (pc := 39) dX12_may_39 ?_
          refine pv_callV1 (pc := 41) dX12_may_41 mgX12_noLow lv_X12_226_12 (by decide) (sx_61 hT) (by omega) (c_X12_noLow (k := 5) hT hR (by decide) (by unfold vp_in; decide)) rfl rfl (by decide) ?_
          refine pv_lret (pc := 44) dX12_may_44 rfl ?_
          first
            | (have e : w_fb2 J K s n x = -5 := (by
                 unfold w_fb2
                 rw [if_pos ⟨(by first | exact Or.inr h17 | exact Or.inl h10 | exact Or.inl (Classical.not_not.mp h10)), (by first | exact Or.inl h21 | exact Or.inr h26)⟩])
               refine qM.scrref hM hk k_lt5b ?_
               unfold S_may
               rw [e, if_neg (by decide)]; rfl)
            | (have e : w_fb2 J K s n x = w_fbar J K s n := (by
                 unfold w_fb2
                 rw [if_neg (fun q => by first | exact q.2.elim h21 h26 | exact q.1.elim h10 h17)])
               refine qM.scrref hM hk (w_fbar_n J K s n) ?_
               unfold S_may
               rw [e, if_neg (by first | exact h35 | exact h10)])

