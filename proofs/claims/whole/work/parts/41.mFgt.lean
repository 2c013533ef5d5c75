/-! what it may be when over was forgotten -/
abbrev ML : Type := List (Int64 × Int64)
def w_fgt (C : Nat → Int64) : Nat → Nat → Int64 → Int64 → ML → Option ML
  | 0, _, p, q, ml => some (if (p, q) ∈ ml then ml else ml ++ [(p, q)])
  | m + 1, i, p, q, ml => if (C i).toInt32 = 3 then
      (if s_room (s_stepP 0 p q) (s_stepQ 0 p q) = true then
        match w_fgt C m (i + 1) (s_stepP 0 p q) (s_stepQ 0 p q) ml with
        | none => none
        | some ml1 => if s_room (s_stepP 1 p q) (s_stepQ 1 p q) = true then w_fgt C m (i + 1) (s_stepP 1 p q) (s_stepQ 1 p q) ml1 else none
      else none)
    else (if s_room (s_stepP (C i).toInt32 p q) (s_stepQ (C i).toInt32 p q) = true then w_fgt C m (i + 1) (s_stepP (C i).toInt32 p q) (s_stepQ (C i).toInt32 p q) ml else none)
/-- how many are forgotten -/
def w_thr (C : Nat → Int64) : Nat → Nat → Nat
  | 0, _ => 0
  | m + 1, i => w_thr C m (i + 1) + (if (C i).toInt32 = 3 then 1 else 0)
theorem fg_len {C : Nat → Int64} : ∀ {m i : Nat} {p q : Int64} {ml ml1 : ML}, w_fgt C m i p q ml = some ml1 → ml1.length ≤ ml.length + 2 ^ w_thr C m i ∧ ml.length ≤ ml1.length
  | 0, i, p, q, ml, ml1, h => by
    rw [w_fgt] at h
    cases h
    rw [w_thr]
    split
    · omega
    · rw [List.length_append, List.length_singleton]; omega
  | m + 1, i, p, q, ml, ml1, h => by
    rw [w_fgt] at h
    rw [w_thr]
    by_cases h3 : (C i).toInt32 = 3
    · rw [if_pos h3] at h ⊢
      rw [Nat.pow_succ]
      split at h
      · split at h
        · cases h
        · rename_i ml2 h2
          split at h
          · have a1 := fg_len h2
            have a2 := fg_len h
            omega
          · cases h
      · cases h
    · rw [if_neg h3] at h ⊢
      split at h
      · exact fg_len h
      · cases h
/-- memory as it was, but for what forgets changes -/
def gI (I I1 : pv_I) : Prop := ∀ a j, a ≠ 73 → ¬ (a = 61 ∧ j = 51) → I1 a j = I a j
def gL (L L1 : pv_L) : Prop := ∀ a j, a ≠ 83 → a ≠ 84 → ¬ (a = 61 ∧ (j = 18 ∨ j = 19)) → L1 a j = L a j
theorem gI.rf {I : pv_I} : gI I I := fun _ _ _ _ => rfl
theorem gL.rf {L : pv_L} : gL L L := fun _ _ _ _ _ => rfl
theorem gI.tr {I I1 I2 : pv_I} (h : gI I I1) (g : gI I1 I2) : gI I I2 := fun a j h1 h2 => (g a j h1 h2).trans (h a j h1 h2)
theorem gL.tr {L L1 L2 : pv_L} (h : gL L L1) (g : gL L1 L2) : gL L L2 := fun a j h1 h2 h3 => (g a j h1 h2 h3).trans (h a j h1 h2 h3)
theorem gI.at {I I1 : pv_I} (h : gI I I1) (c : Nat → Int32) : gI I (m_at I1 c) := fun a j h1 h2 => by rw [m_at_app, if_neg (fun r => h1 r.1)]; exact h a j h1 h2
theorem gI.u {I I1 : pv_I} (h : gI I I1) (v : Int32) : gI I (pv_u I1 61 51 v) := fun a j h1 h2 => by rw [pv_u_app, if_neg h2]; exact h a j h1 h2
theorem gL.u {L L1 : pv_L} (h : gL L L1) (a j : Nat) (v : Int64) (hn : a = 83 ∨ a = 84 ∨ (a = 61 ∧ (j = 18 ∨ j = 19))) : gL L (pv_u L1 a j v) := fun b i h1 h2 h3 => by rw [pv_u_app, if_neg (by omega)]; exact h b i h1 h2 h3
theorem gL.pq {L L1 : pv_L} (h : gL L L1) (p q : Int64) : gL L (m_pq L1 p q) := (h.u 61 18 p (by omega)).u 61 19 q (by omega)
theorem g_kS {I I1 : pv_I} {L L1 : pv_L} (h : gI I I1) (g : gL L L1) : kS I L I1 L1 :=
  ⟨fun j _ => h 61 j (by decide) (by omega), g 61 5 (by decide) (by decide) (by omega), g 61 6 (by decide) (by decide) (by omega), fun a ha => funext fun j => h a j (by omega) (by omega), fun a ha => funext fun j => g a j (by omega) (by omega) (by omega)⟩
def ms_ok (I : pv_I) (L : pv_L) (ml : ML) : Prop := I 61 51 = Int32.ofNat ml.length ∧ ∀ j x, ml[j]? = some x → L 83 j = x.1 ∧ L 84 j = x.2
theorem ms_cg {I I1 : pv_I} {L L1 : pv_L} {ml : ML} (h : ms_ok I L ml) (h1 : I1 61 51 = I 61 51) (h2 : ∀ j, L1 83 j = L 83 j ∧ L1 84 j = L 84 j) : ms_ok I1 L1 ml :=
  ⟨h1.trans h.1, fun j x hx => by rw [(h2 j).1, (h2 j).2]; exact h.2 j x hx⟩
theorem ms_app {I : pv_I} {L : pv_L} {ml : ML} (h : ms_ok I L ml) (hl : ml.length < 128) (p q : Int64) : ms_ok (pv_u I 61 51 (I 61 51 + 1)) (pv_u (pv_u L 83 (I 61 51).toNatClampNeg p) 84 (I 61 51).toNatClampNeg q) (ml ++ [(p, q)]) := by
  have e : (I 61 51).toNatClampNeg = ml.length := by rw [h.1, i_nat (by omega)]
  rw [e]
  refine ⟨?_, fun j x hx => ?_⟩
  · rw [pv_u_app, if_pos ⟨rfl, rfl⟩, h.1, i_inc, List.length_append, List.length_singleton]
  · by_cases g : j < ml.length
    · rw [List.getElem?_append_left g] at hx
      obtain ⟨a1, a2⟩ := h.2 j x hx
      rw [pv_u_app, if_neg (by omega), pv_u_app, if_neg (by omega), pv_u_app, if_neg (by omega), pv_u_app, if_neg (by omega)]
      exact ⟨a1, a2⟩
    · rw [List.getElem?_append_right (by omega)] at hx
      by_cases g2 : j = ml.length
      · rw [g2, Nat.sub_self, List.getElem?_cons_zero] at hx
        cases hx
        rw [g2, pv_u_app, if_neg (by omega), pv_u_app, if_pos ⟨rfl, rfl⟩, pv_u_app, if_pos ⟨rfl, rfl⟩]
        exact ⟨rfl, rfl⟩
      · rw [show j - ml.length = (j - ml.length - 1) + 1 by omega, List.getElem?_cons_succ] at hx
        cases hx

set_option maxRecDepth 100000 in
set_option maxHeartbeats 4000000 in
theorem l_fgs {G : pv_G} {d : Nat} {Q : pv_Q} {s n : Int32} {ml : ML} {p q : Int64} {t : pv_T} {I : pv_I} {L : pv_L} {Rf : pv_R} (hT : sh_ok t) (hR : rf_ok Rf) (hms : ms_ok I L ml) (hl : ml.length ≤ 128) (hp : L 61 18 = p) (hq : L 61 19 = q) (hyes : (p, q) ∈ ml → Q (some (.int 1)) t I L Rf) (hno : (p, q) ∉ ml → ∀ l4 l5 l6 l7 l8 l9, pv_V G mX12_forgets d 0 0 Q 0 0 55 [.ref 61, .int s, .int n, .int n, l4, l5, l6, l7, l8, l9] [] t I L Rf) : ∀ (m j : Nat), j + m = ml.length → (∀ k, k < j → ml[k]? ≠ some (p, q)) → ∀ (l5 l6 l7 l8 l9 : Value),
    pv_V G mX12_forgets d 0 0 Q 0 0 8 [.ref 61, .int s, .int n, .int n, .int (Int32.ofNat j), l5, l6, l7, l8, l9] [] t I L Rf := by
  intro m
  induction m with
  | zero =>
    intro j hm hj l5 l6 l7 l8 l9
    refine pv_iload_4 (pc := 8) dX12_forgets_8 ?_
    refine pv_aload_0 (pc := 10) dX12_forgets_10 ?_
    refine pv_getI (pc := 11) dX12_forgets_11 fg_X12_352_12 rfl (by decide) (sx_61 hT) ?_
    refine pv_icmp_ge (pc := 14) (tgt := 55) dX12_forgets_14 (by decide) (fun h14 => ?_) (fun h14 => absurd h14 (by rw [hms.1, i_lt, i_of (by omega), i_of (by omega)]; omega))
    exact hno (fun hm => by obtain ⟨k, hk1, hk2⟩ := List.mem_iff_getElem.mp hm; exact hj k (by omega) (by rw [List.getElem?_eq_getElem hk1, hk2])) _ _ _ _ _ _
  | succ m ih =>
    intro j hm hj l5 l6 l7 l8 l9
    refine pv_iload_4 (pc := 8) dX12_forgets_8 ?_
    refine pv_aload_0 (pc := 10) dX12_forgets_10 ?_
    refine pv_getI (pc := 11) dX12_forgets_11 fg_X12_352_12 rfl (by decide) (sx_61 hT) ?_
    refine pv_icmp_ge (pc := 14) (tgt := 55) dX12_forgets_14 (by decide) (fun h14 => absurd h14 (not_not_intro (by rw [hms.1, i_lt, i_of (by omega), i_of (by omega)]; omega))) (fun h14 => ?_)
    obtain ⟨z, hz⟩ : ∃ z, ml[j]? = some z := ⟨ml[j]'(by omega), List.getElem?_eq_getElem (by omega)⟩
    obtain ⟨z1, z2⟩ := hms.2 j z hz
    have ej := i_nat (k := j) (by omega)
    refine pv_aload_0 (pc := 17) dX12_forgets_17 ?_
    refine pv_getR (pc := 18) dX12_forgets_18 fg_X12_85_12 rfl (by decide) (sx_61 hT) (rx_61_49 hR) ?_
    refine pv_iload_4 (pc := 21) dX12_forgets_21 ?_
    refine pv_laloadj (pc := 23) dX12_forgets_23 (by decide) (sx_83 hT) rfl (i_in (k := j) (by omega) (by decide)) ?_
    refine pv_aload_0 (pc := 24) dX12_forgets_24 ?_
    refine pv_getL (pc := 25) dX12_forgets_25 fg_X12_150_12 (by decide) (sx_61 hT) ?_
    refine pv_lcmp_ne (pc := 28) (tgt := 49) dX12_forgets_28 dX12_forgets_29 (by decide) (fun h28 => ?_) (fun h28 => ?_)
    · refine pv_iinc_4 (pc := 49) (v := _ + 1) dX12_forgets_49 rfl (by decide) rfl ?_
      refine pv_goto (pc := 52) (tgt := 8) dX12_forgets_52 (by decide) ?_
      rw [i_inc]
      refine ih (j + 1) (by omega) (fun k hk hk2 => ?_) _ _ _ _ _
      by_cases e : k = j
      · subst e
        rw [hz] at hk2
        have f0 := Option.some.inj hk2
        rw [f0] at z1 z2
        first
          | (have f1 := h28; rw [ej, z1, hp] at f1; exact f1 rfl)
          | (have f2 := h43; rw [ej, z2, hq] at f2; exact f2 rfl)
      · exact hj k (by omega) hk2
    · refine pv_aload_0 (pc := 32) dX12_forgets_32 ?_
      refine pv_getR (pc := 33) dX12_forgets_33 fg_X12_88_12 rfl (by decide) (sx_61 hT) (rx_61_50 hR) ?_
      refine pv_iload_4 (pc := 36) dX12_forgets_36 ?_
      refine pv_laloadj (pc := 38) dX12_forgets_38 (by decide) (sx_84 hT) rfl (i_in (k := j) (by omega) (by decide)) ?_
      refine pv_aload_0 (pc := 39) dX12_forgets_39 ?_
      refine pv_getL (pc := 40) dX12_forgets_40 fg_X12_153_12 (by decide) (sx_61 hT) ?_
      refine pv_lcmp_ne (pc := 43) (tgt := 49) dX12_forgets_43 dX12_forgets_44 (by decide) (fun h43 => ?_) (fun h43 => ?_)
      · refine pv_iinc_4 (pc := 49) (v := _ + 1) dX12_forgets_49 rfl (by decide) rfl ?_
        refine pv_goto (pc := 52) (tgt := 8) dX12_forgets_52 (by decide) ?_
        rw [i_inc]
        refine ih (j + 1) (by omega) (fun k hk hk2 => ?_) _ _ _ _ _
        by_cases e : k = j
        · subst e
          rw [hz] at hk2
          have f0 := Option.some.inj hk2
          rw [f0] at z1 z2
          first
            | (have f1 := h28; rw [ej, z1, hp] at f1; exact f1 rfl)
            | (have f2 := h43; rw [ej, z2, hq] at f2; exact f2 rfl)
        · exact hj k (by omega) hk2
      · refine pv_iconst (pc := 47) (v := 1) dX12_forgets_47 (by decide) ?_
        refine pv_iret (pc := 48) dX12_forgets_48 rfl rfl ?_
        refine hyes (List.mem_of_getElem? (i := j) ?_)
        have f1 := h28
        have f2 := h43
        rw [ej, z1, hp] at f1
        rw [ej, z2, hq] at f2
        rw [hz, ← f1, ← f2]

theorem f_some {x : Option ML} (h : ¬ pv_b x.isSome = 0) : ∃ l, x = some l := by
  cases x with
  | none => exact absurd rfl h
  | some l => exact ⟨l, rfl⟩
theorem f_none {x : Option ML} (h : pv_b x.isSome = 0) : x = none := by
  cases x with
  | none => rfl
  | some l => exact absurd (show (1 : Int32) = 0 from h) (by decide)
theorem w_fgt_3 {C : Nat → Int64} {m i : Nat} {p q : Int64} {ml ml1 : ML} (h3 : (C i).toInt32 = 3) (h : s_room (s_stepP 0 p q) (s_stepQ 0 p q) = true) (g : w_fgt C m (i + 1) (s_stepP 0 p q) (s_stepQ 0 p q) ml = some ml1) : w_fgt C (m + 1) i p q ml = if s_room (s_stepP 1 p q) (s_stepQ 1 p q) = true then w_fgt C m (i + 1) (s_stepP 1 p q) (s_stepQ 1 p q) ml1 else none := by
  rw [w_fgt, if_pos h3, if_pos h, g]
set_option maxRecDepth 100000 in
set_option maxHeartbeats 4000000 in
theorem l_fgt {G : pv_G} {C : Nat → Int64} {s n : Int32} {t : pv_T} {Rf : pv_R} (hT : sh_ok t) (hR : rf_ok Rf) (hs : vp_in s 8) (h0 : 0 ≤ n.toInt) (hn : n.toInt ≤ 40) : ∀ (m i d : Nat), i + m = n.toNatClampNeg → m + 2 ≤ d → ∀ (I : pv_I) (L : pv_L) (p q : Int64) (ml : ML), (∀ j, j < 160 → L 71 (160 * s.toNatClampNeg + j) = C j) → (∀ j, i ≤ j → j < n.toNatClampNeg → (C j).toInt32 = 0 ∨ (C j).toInt32 = 1 ∨ (C j).toInt32 = 2 ∨ (C j).toInt32 = 3) → L 61 18 = p → L 61 19 = q → ms_ok I L ml → ml.length + 2 ^ w_thr C m i ≤ 128 →
    pv_Mt G mX12_forgets d 0 0 [.ref 61, .int s, .int n, .int (Int32.ofNat i)] t I L Rf (fun v t1 I1 L1 R1 => v = some (.int (pv_b (w_fgt C m i p q ml).isSome)) ∧ t1 = t ∧ R1 = Rf ∧ gI I I1 ∧ gL L L1 ∧ ∀ ml1, w_fgt C m i p q ml = some ml1 → ms_ok I1 L1 ml1 ∧ L1 61 18 = p ∧ L1 61 19 = q) := by
  intro m
  induction m with
  | zero =>
    intro i d hk hd I L p q ml hC hv hp hq hms hl
    have hnl := i_lit n
    rw [w_thr] at hl
    have hin : Int32.ofNat i = n := by rw [← Int32.toInt_inj, i_of (by omega)]; omega
    rw [hin]
    refine pv_mt mgX12_forgets.2.2.2.2.2 [.ref 61, .int s, .int n, .int n, .retAddr 0, .retAddr 0, .retAddr 0, .retAddr 0, .retAddr 0, .retAddr 0] rfl (Nat.le_of_ble_eq_true rfl) ?_
    refine pv_iload_3 (pc := 0) dX12_forgets_0 ?_
    refine pv_iload_2 (pc := 1) dX12_forgets_1 ?_
    refine pv_icmp_ne (pc := 2) (tgt := 93) dX12_forgets_2 (by decide) (fun h2 => absurd h2 (not_not_intro rfl)) (fun h2 => ?_)
    refine pv_iconst (pc := 5) (v := 0) dX12_forgets_5 (by decide) ?_
    refine pv_istore_4 (pc := 6) dX12_forgets_6 (by decide) rfl ?_
    refine l_fgs hT hR hms (by omega) hp hq (fun hm => ?_) (fun hm l4 l5 l6 l7 l8 l9 => ?_) ml.length 0 (by omega) (fun k hk => absurd hk (Nat.not_lt_zero k)) _ _ _ _ _
    · have e1 : w_fgt C 0 i p q ml = some ml := by rw [w_fgt, if_pos hm]
      rw [e1]
      exact ⟨rfl, rfl, rfl, gI.rf, gL.rf, fun ml1 h1 => by cases h1; exact ⟨hms, hp, hq⟩⟩
    · skip
      refine pv_aload_0 (pc := 55) dX12_forgets_55 ?_
      refine pv_getR (pc := 56) dX12_forgets_56 fg_X12_85_12 rfl (by decide) (sx_61 hT) (rx_61_49 hR) ?_
      refine pv_aload_0 (pc := 59) dX12_forgets_59 ?_
      refine pv_getI (pc := 60) dX12_forgets_60 fg_X12_352_12 rfl (by decide) (sx_61 hT) ?_
      refine pv_aload_0 (pc := 63) dX12_forgets_63 ?_
      refine pv_getL (pc := 64) dX12_forgets_64 fg_X12_150_12 (by decide) (sx_61 hT) ?_
      refine pv_lastorej (pc := 67) dX12_forgets_67 (by decide) (sx_83 hT) rfl (by show vp_in (I 61 51) 128; rw [hms.1]; exact i_in (by omega) (by omega)) ?_
      refine pv_aload_0 (pc := 68) dX12_forgets_68 ?_
      refine pv_getR (pc := 69) dX12_forgets_69 fg_X12_88_12 rfl (by decide) (sx_61 hT) (rx_61_50 hR) ?_
      refine pv_aload_0 (pc := 72) dX12_forgets_72 ?_
      refine pv_getI (pc := 73) dX12_forgets_73 fg_X12_352_12 rfl (by decide) (sx_61 hT) ?_
      refine pv_aload_0 (pc := 76) dX12_forgets_76 ?_
      refine pv_getL (pc := 77) dX12_forgets_77 fg_X12_153_12 (by decide) (sx_61 hT) ?_
      refine pv_lastorej (pc := 80) dX12_forgets_80 (by decide) (sx_84 hT) rfl (by show vp_in (I 61 51) 128; rw [hms.1]; exact i_in (by omega) (by omega)) ?_
      refine pv_aload_0 (pc := 81) dX12_forgets_81 ?_
      refine pv_dup (pc := 82) dX12_forgets_82 rfl ?_
      refine pv_getI (pc := 83) dX12_forgets_83 fg_X12_352_12 rfl (by decide) (sx_61 hT) ?_
      refine pv_iconst (pc := 86) (v := 1) dX12_forgets_86 (by decide) ?_
      refine pv_iadd (pc := 87) dX12_forgets_87 ?_
      refine pv_putI (pc := 88) dX12_forgets_88 fl_X12_352_12 (fun q => by cases q) ⟨rfl, rfl, rfl⟩ (by decide) (sx_61 hT) ?_
      refine pv_iconst (pc := 91) (v := 1) dX12_forgets_91 (by decide) ?_
      refine pv_iret (pc := 92) dX12_forgets_92 rfl rfl ?_
      have e1 : w_fgt C 0 i p q ml = some (ml ++ [(p, q)]) := by rw [w_fgt, if_neg hm]
      rw [e1]
      have ha := ms_app hms (by omega) p q
      refine ⟨rfl, rfl, rfl, gI.rf.u _, (gL.rf.u 83 _ _ (by omega)).u 84 _ _ (by omega), fun ml1 h1 => ?_⟩
      cases h1
      have hp2 : L 61 18 = p := hp
      have hq2 : L 61 19 = q := hq
      refine ⟨?_, hp, hq⟩
      rw [← hp2, ← hq2] at ha ⊢
      exact ha
  | succ m ih =>
    intro i d hk hd I L p q ml hC hv hp hq hms hl
    have hnl := i_lit n
    have hl0 := hl
    rw [w_thr] at hl
    have hv012 : ¬ (C i).toInt32 = 3 → (C i).toInt32 = 0 ∨ (C i).toInt32 = 1 ∨ (C i).toInt32 = 2 := fun h3 => by rcases hv i (by omega) (by omega) with g | g | g | g; exact Or.inl g; exact Or.inr (Or.inl g); exact Or.inr (Or.inr g); exact absurd g h3
    refine pv_mt mgX12_forgets.2.2.2.2.2 [.ref 61, .int s, .int n, .int (Int32.ofNat i), .retAddr 0, .retAddr 0, .retAddr 0, .retAddr 0, .retAddr 0, .retAddr 0] rfl (Nat.le_of_ble_eq_true rfl) ?_
    by_cases h3 : (C i).toInt32 = 3
    · rw [if_pos h3, Nat.pow_succ] at hl
      have hl3 : ml.length + 2 ^ w_thr C m (i + 1) ≤ 128 := by omega
      refine pv_iload_3 (pc := 0) dX12_forgets_0 ?_
      refine pv_iload_2 (pc := 1) dX12_forgets_1 ?_
      refine pv_icmp_ne (pc := 2) (tgt := 93) dX12_forgets_2 (by decide) (fun h2 => ?_) (fun h2 => absurd h2 (by intro r; rw [← Int32.toInt_inj, i_of (by omega)] at r; have := i_lit n; omega))
      refine pv_aload_0 (pc := 93) dX12_forgets_93 ?_
      refine pv_iload_1 (pc := 94) dX12_forgets_94 ?_
      refine pv_iload_3 (pc := 95) dX12_forgets_95 ?_
      refine pv_callV1 (pc := 96) dX12_forgets_96 mgX12_intAt lv_X12_242_12 (by decide) (sx_61 hT) (by omega) (c_X12_intAt hT hR hs (i_in (k := i) (by omega) (by decide))) rfl rfl (by decide) ?_
      refine pv_topv2 (y := (C i).toInt32) (by rw [i_nat (by omega), hC i (by omega)]) ?_
      refine pv_istore_4 (pc := 99) dX12_forgets_99 (by decide) rfl ?_
      refine pv_aload_0 (pc := 101) dX12_forgets_101 ?_
      refine pv_getL (pc := 102) dX12_forgets_102 fg_X12_150_12 (by decide) (sx_61 hT) ?_
      refine pv_lstore_5 (pc := 105) dX12_forgets_105 (by decide) rfl ?_
      refine pv_aload_0 (pc := 107) dX12_forgets_107 ?_
      refine pv_getL (pc := 108) dX12_forgets_108 fg_X12_153_12 (by decide) (sx_61 hT) ?_
      refine pv_lstore_7 (pc := 111) dX12_forgets_111 (by decide) rfl ?_
      refine pv_iconst (pc := 113) (v := 0) dX12_forgets_113 (by decide) ?_
      refine pv_istore_9 (pc := 114) dX12_forgets_114 (by decide) rfl ?_
      refine pv_iload_9 (pc := 116) dX12_forgets_116 ?_
      refine pv_iload_4 (pc := 118) dX12_forgets_118 ?_
      refine pv_iconst (pc := 120) (v := 3) dX12_forgets_120 (by decide) ?_
      refine pv_icmp_ne (pc := 121) (tgt := 128) dX12_forgets_121 (by decide) (fun h121 => absurd h121 (not_not_intro h3)) (fun h121 => ?_)
      refine pv_iconst (pc := 124) (v := 2) dX12_forgets_124 (by decide) ?_
      refine pv_goto (pc := 125) (tgt := 129) dX12_forgets_125 (by decide) ?_
      refine pv_icmp_ge (pc := 129) (tgt := 188) dX12_forgets_129 (by decide) (fun q => absurd q (by decide)) (fun _ => ?_)
      refine pv_aload_0 (pc := 132) dX12_forgets_132 ?_
      refine pv_iload_4 (pc := 133) dX12_forgets_133 ?_
      refine pv_iconst (pc := 135) (v := 3) dX12_forgets_135 (by decide) ?_
      refine pv_icmp_ne (pc := 136) (tgt := 144) dX12_forgets_136 (by decide) (fun h136 => absurd h136 (not_not_intro h3)) (fun h136 => ?_)
      refine pv_iload_9 (pc := 139) dX12_forgets_139 ?_
      refine pv_goto (pc := 141) (tgt := 146) dX12_forgets_141 (by decide) ?_
      refine pv_callV0 (pc := 146) dX12_forgets_146 mgX12_step lv_X12_286_12 (by decide) (sx_61 hT) (by omega) (c_X12_step hT hR (by decide) (by omega)) rfl rfl (by decide) ?_
      refine pv_aload_0 (pc := 149) dX12_forgets_149 ?_
      refine pv_callV1 (pc := 150) dX12_forgets_150 mgX12_isRoom lv_X12_236_12 (by decide) (sx_61 hT) (by omega) (c_X12_isRoom hT) rfl rfl (by decide) ?_
      refine pv_if_eq (pc := 153) (tgt := 168) dX12_forgets_153 (by decide) (fun h153 => ?_) (fun h153 => ?_)
      · refine pv_iconst (pc := 168) (v := 0) dX12_forgets_168 (by decide) ?_
        refine pv_iret (pc := 169) dX12_forgets_169 rfl rfl ?_
        have f0 : s_room (s_stepP 0 p q) (s_stepQ 0 p q) = false := (by have f0 := (pv_b_0 _).mp h153; rw [← hp, ← hq]; exact f0)
        have e1 : w_fgt C (m + 1) i p q ml = none := by rw [w_fgt, if_pos h3, if_neg (by rw [f0]; decide)]
        rw [e1]
        exact ⟨rfl, rfl, rfl, gI.rf.at _, gL.rf.pq _ _, fun ml1 h1 => by cases h1⟩
      · refine pv_aload_0 (pc := 156) dX12_forgets_156 ?_
        refine pv_iload_1 (pc := 157) dX12_forgets_157 ?_
        refine pv_iload_2 (pc := 158) dX12_forgets_158 ?_
        refine pv_iload_3 (pc := 159) dX12_forgets_159 ?_
        refine pv_iconst (pc := 160) (v := 1) dX12_forgets_160 (by decide) ?_
        refine pv_iadd (pc := 161) dX12_forgets_161 ?_
        refine pv_topv2 (y := Int32.ofNat (i + 1)) (i_inc i) ?_
        refine pv_callVq (pc := 162) dX12_forgets_162 mgX12_forgets lv_X12_355_12 (by decide) (sx_61 hT) (by omega) (ih (i + 1) (d - 1) (by omega) (by omega) _ _ (s_stepP 0 p q) (s_stepQ 0 p q) ml (fun j hj => hC j hj) (fun j h1 h2 => hv j (by omega) h2) (by rw [← hp, ← hq]; rfl) (by rw [← hp, ← hq]; rfl) (ms_cg hms rfl (fun _ => ⟨rfl, rfl⟩)) hl3) rfl rfl (by decide) (fun v t I L Rf hq => ?_)
        obtain ⟨rfl, rfl, rfl, hg0, hh0, hm0⟩ := hq
        refine pv_if_ne (pc := 165) (tgt := 170) dX12_forgets_165 (by decide) (fun h165 => ?_) (fun h165 => ?_)
        · refine pv_aload_0 (pc := 170) dX12_forgets_170 ?_
          refine pv_lload_5 (pc := 171) dX12_forgets_171 ?_
          refine pv_putL (pc := 173) dX12_forgets_173 fl_X12_150_12 (fun q => by cases q) (by decide) (sx_61 hT) ?_
          refine pv_aload_0 (pc := 176) dX12_forgets_176 ?_
          refine pv_lload_7 (pc := 177) dX12_forgets_177 ?_
          refine pv_putL (pc := 179) dX12_forgets_179 fl_X12_153_12 (fun q => by cases q) (by decide) (sx_61 hT) ?_
          obtain ⟨ml2, g2⟩ := f_some h165
          obtain ⟨q1, q2, q3⟩ := hm0 _ g2
          refine pv_iinc_9 (pc := 182) (v := 1) dX12_forgets_182 (by decide) (by decide) rfl ?_
          refine pv_goto (pc := 185) (tgt := 116) dX12_forgets_185 (by decide) ?_
          refine pv_iload_9 (pc := 116) dX12_forgets_116 ?_
          refine pv_iload_4 (pc := 118) dX12_forgets_118 ?_
          refine pv_iconst (pc := 120) (v := 3) dX12_forgets_120 (by decide) ?_
          refine pv_icmp_ne (pc := 121) (tgt := 128) dX12_forgets_121 (by decide) (fun h121_1 => absurd h121_1 (not_not_intro h3)) (fun h121_1 => ?_)
          refine pv_iconst (pc := 124) (v := 2) dX12_forgets_124 (by decide) ?_
          refine pv_goto (pc := 125) (tgt := 129) dX12_forgets_125 (by decide) ?_
          refine pv_icmp_ge (pc := 129) (tgt := 188) dX12_forgets_129 (by decide) (fun q => absurd q (by decide)) (fun _ => ?_)
          refine pv_aload_0 (pc := 132) dX12_forgets_132 ?_
          refine pv_iload_4 (pc := 133) dX12_forgets_133 ?_
          refine pv_iconst (pc := 135) (v := 3) dX12_forgets_135 (by decide) ?_
          refine pv_icmp_ne (pc := 136) (tgt := 144) dX12_forgets_136 (by decide) (fun h136_1 => absurd h136_1 (not_not_intro h3)) (fun h136_1 => ?_)
          refine pv_iload_9 (pc := 139) dX12_forgets_139 ?_
          refine pv_goto (pc := 141) (tgt := 146) dX12_forgets_141 (by decide) ?_
          refine pv_callV0 (pc := 146) dX12_forgets_146 mgX12_step lv_X12_286_12 (by decide) (sx_61 hT) (by omega) (c_X12_step hT hR (by decide) (by omega)) rfl rfl (by decide) ?_
          refine pv_aload_0 (pc := 149) dX12_forgets_149 ?_
          refine pv_callV1 (pc := 150) dX12_forgets_150 mgX12_isRoom lv_X12_236_12 (by decide) (sx_61 hT) (by omega) (c_X12_isRoom hT) rfl rfl (by decide) ?_
          refine pv_if_eq (pc := 153) (tgt := 168) dX12_forgets_153 (by decide) (fun h153_1 => ?_) (fun h153_1 => ?_)
          · refine pv_iconst (pc := 168) (v := 0) dX12_forgets_168 (by decide) ?_
            refine pv_iret (pc := 169) dX12_forgets_169 rfl rfl ?_
            have f0 : s_room (s_stepP 0 p q) (s_stepQ 0 p q) = true := (by have f0 := (pv_b_n0 _).mp h153; rw [← hp, ← hq]; exact f0)
            have f1 : s_room (s_stepP 1 p q) (s_stepQ 1 p q) = false := (by have f0 := (pv_b_0 _).mp h153_1; rw [← hp, ← hq]; exact f0)
            have e1 : w_fgt C (m + 1) i p q ml = none := by rw [w_fgt_3 h3 f0 g2, if_neg (by rw [f1]; decide)]
            rw [e1]
            exact ⟨rfl, rfl, rfl, ((((gI.rf.at _).tr hg0).at _)), ((((((gL.rf.pq _ _).tr hh0).u 61 18 _ (by omega)).u 61 19 _ (by omega)).pq _ _)), fun ml1 h1 => by cases h1⟩
          · refine pv_aload_0 (pc := 156) dX12_forgets_156 ?_
            refine pv_iload_1 (pc := 157) dX12_forgets_157 ?_
            refine pv_iload_2 (pc := 158) dX12_forgets_158 ?_
            refine pv_iload_3 (pc := 159) dX12_forgets_159 ?_
            refine pv_iconst (pc := 160) (v := 1) dX12_forgets_160 (by decide) ?_
            refine pv_iadd (pc := 161) dX12_forgets_161 ?_
            refine pv_topv2 (y := Int32.ofNat (i + 1)) (i_inc i) ?_
            refine pv_callVq (pc := 162) dX12_forgets_162 mgX12_forgets lv_X12_355_12 (by decide) (sx_61 hT) (by omega) (ih (i + 1) (d - 1) (by omega) (by omega) _ _ (s_stepP 1 p q) (s_stepQ 1 p q) ml2 (fun j hj => (hh0 71 (160 * s.toNatClampNeg + j) (by decide) (by decide) (by omega)).trans (hC j hj)) (fun j h1 h2 => hv j (by omega) h2) (by rw [← hp, ← hq]; rfl) (by rw [← hp, ← hq]; rfl) (ms_cg q1 rfl (fun _ => ⟨rfl, rfl⟩)) (by have := (fg_len g2).1; omega)) rfl rfl (by decide) (fun v t I L Rf hq => ?_)
            obtain ⟨rfl, rfl, rfl, hg1, hh1, hm1⟩ := hq
            refine pv_if_ne (pc := 165) (tgt := 170) dX12_forgets_165 (by decide) (fun h165_1 => ?_) (fun h165_1 => ?_)
            · refine pv_aload_0 (pc := 170) dX12_forgets_170 ?_
              refine pv_lload_5 (pc := 171) dX12_forgets_171 ?_
              refine pv_putL (pc := 173) dX12_forgets_173 fl_X12_150_12 (fun q => by cases q) (by decide) (sx_61 hT) ?_
              refine pv_aload_0 (pc := 176) dX12_forgets_176 ?_
              refine pv_lload_7 (pc := 177) dX12_forgets_177 ?_
              refine pv_putL (pc := 179) dX12_forgets_179 fl_X12_153_12 (fun q => by cases q) (by decide) (sx_61 hT) ?_
              obtain ⟨ml3, g3⟩ := f_some h165_1
              refine pv_iinc_9 (pc := 182) (v := 2) dX12_forgets_182 (by decide) (by decide) rfl ?_
              refine pv_goto (pc := 185) (tgt := 116) dX12_forgets_185 (by decide) ?_
              refine pv_iload_9 (pc := 116) dX12_forgets_116 ?_
              refine pv_iload_4 (pc := 118) dX12_forgets_118 ?_
              refine pv_iconst (pc := 120) (v := 3) dX12_forgets_120 (by decide) ?_
              refine pv_icmp_ne (pc := 121) (tgt := 128) dX12_forgets_121 (by decide) (fun h121_2 => absurd h121_2 (not_not_intro h3)) (fun h121_2 => ?_)
              refine pv_iconst (pc := 124) (v := 2) dX12_forgets_124 (by decide) ?_
              refine pv_goto (pc := 125) (tgt := 129) dX12_forgets_125 (by decide) ?_
              refine pv_icmp_ge (pc := 129) (tgt := 188) dX12_forgets_129 (by decide) (fun _ => ?_) (fun q => absurd q (by decide))
              refine pv_iconst (pc := 188) (v := 1) dX12_forgets_188 (by decide) ?_
              refine pv_iret (pc := 189) dX12_forgets_189 rfl rfl ?_
              have f0 : s_room (s_stepP 0 p q) (s_stepQ 0 p q) = true := (by have f0 := (pv_b_n0 _).mp h153; rw [← hp, ← hq]; exact f0)
              have f1 : s_room (s_stepP 1 p q) (s_stepQ 1 p q) = true := (by have f0 := (pv_b_n0 _).mp h153_1; rw [← hp, ← hq]; exact f0)
              have e1 : w_fgt C (m + 1) i p q ml = some ml3 := by rw [w_fgt_3 h3 f0 g2, if_pos f1, g3]
              rw [e1]
              refine ⟨rfl, rfl, rfl, ((((gI.rf.at _).tr hg0).at _)).tr hg1, ((((((((gL.rf.pq _ _).tr hh0).u 61 18 _ (by omega)).u 61 19 _ (by omega)).pq _ _)).tr hh1).u 61 18 _ (by omega)).u 61 19 _ (by omega), fun ml1 h1 => ?_⟩
              cases h1
              exact ⟨ms_cg (hm1 _ g3).1 rfl (fun _ => ⟨rfl, rfl⟩), hp, hq⟩
            · refine pv_iconst (pc := 168) (v := 0) dX12_forgets_168 (by decide) ?_
              refine pv_iret (pc := 169) dX12_forgets_169 rfl rfl ?_
              have f0 : s_room (s_stepP 0 p q) (s_stepQ 0 p q) = true := (by have f0 := (pv_b_n0 _).mp h153; rw [← hp, ← hq]; exact f0)
              have f1 : s_room (s_stepP 1 p q) (s_stepQ 1 p q) = true := (by have f0 := (pv_b_n0 _).mp h153_1; rw [← hp, ← hq]; exact f0)
              have g3 := f_none h165_1
              have e1 : w_fgt C (m + 1) i p q ml = none := by rw [w_fgt_3 h3 f0 g2, if_pos f1, g3]
              rw [e1]
              exact ⟨rfl, rfl, rfl, ((((gI.rf.at _).tr hg0).at _)).tr hg1, ((((((gL.rf.pq _ _).tr hh0).u 61 18 _ (by omega)).u 61 19 _ (by omega)).pq _ _)).tr hh1, fun ml1 h1 => by cases h1⟩
        · refine pv_iconst (pc := 168) (v := 0) dX12_forgets_168 (by decide) ?_
          refine pv_iret (pc := 169) dX12_forgets_169 rfl rfl ?_
          have f0 : s_room (s_stepP 0 p q) (s_stepQ 0 p q) = true := (by have f0 := (pv_b_n0 _).mp h153; rw [← hp, ← hq]; exact f0)
          have g2 := f_none h165
          have e1 : w_fgt C (m + 1) i p q ml = none := by rw [w_fgt, if_pos h3, if_pos f0, g2]
          rw [e1]
          exact ⟨rfl, rfl, rfl, (gI.rf.at _).tr hg0, (gL.rf.pq _ _).tr hh0, fun ml1 h1 => by cases h1⟩
    · rw [if_neg h3] at hl
      have hl1 : ml.length + 2 ^ w_thr C m (i + 1) ≤ 128 := hl
      refine pv_iload_3 (pc := 0) dX12_forgets_0 ?_
      refine pv_iload_2 (pc := 1) dX12_forgets_1 ?_
      refine pv_icmp_ne (pc := 2) (tgt := 93) dX12_forgets_2 (by decide) (fun h2 => ?_) (fun h2 => absurd h2 (by intro r; rw [← Int32.toInt_inj, i_of (by omega)] at r; have := i_lit n; omega))
      refine pv_aload_0 (pc := 93) dX12_forgets_93 ?_
      refine pv_iload_1 (pc := 94) dX12_forgets_94 ?_
      refine pv_iload_3 (pc := 95) dX12_forgets_95 ?_
      refine pv_callV1 (pc := 96) dX12_forgets_96 mgX12_intAt lv_X12_242_12 (by decide) (sx_61 hT) (by omega) (c_X12_intAt hT hR hs (i_in (k := i) (by omega) (by decide))) rfl rfl (by decide) ?_
      refine pv_topv2 (y := (C i).toInt32) (by rw [i_nat (by omega), hC i (by omega)]) ?_
      refine pv_istore_4 (pc := 99) dX12_forgets_99 (by decide) rfl ?_
      refine pv_aload_0 (pc := 101) dX12_forgets_101 ?_
      refine pv_getL (pc := 102) dX12_forgets_102 fg_X12_150_12 (by decide) (sx_61 hT) ?_
      refine pv_lstore_5 (pc := 105) dX12_forgets_105 (by decide) rfl ?_
      refine pv_aload_0 (pc := 107) dX12_forgets_107 ?_
      refine pv_getL (pc := 108) dX12_forgets_108 fg_X12_153_12 (by decide) (sx_61 hT) ?_
      refine pv_lstore_7 (pc := 111) dX12_forgets_111 (by decide) rfl ?_
      refine pv_iconst (pc := 113) (v := 0) dX12_forgets_113 (by decide) ?_
      refine pv_istore_9 (pc := 114) dX12_forgets_114 (by decide) rfl ?_
      refine pv_iload_9 (pc := 116) dX12_forgets_116 ?_
      refine pv_iload_4 (pc := 118) dX12_forgets_118 ?_
      refine pv_iconst (pc := 120) (v := 3) dX12_forgets_120 (by decide) ?_
      refine pv_icmp_ne (pc := 121) (tgt := 128) dX12_forgets_121 (by decide) (fun h121 => ?_) (fun h121 => absurd h121 h3)
      refine pv_iconst (pc := 128) (v := 1) dX12_forgets_128 (by decide) ?_
      refine pv_icmp_ge (pc := 129) (tgt := 188) dX12_forgets_129 (by decide) (fun q => absurd q (by decide)) (fun _ => ?_)
      refine pv_aload_0 (pc := 132) dX12_forgets_132 ?_
      refine pv_iload_4 (pc := 133) dX12_forgets_133 ?_
      refine pv_iconst (pc := 135) (v := 3) dX12_forgets_135 (by decide) ?_
      refine pv_icmp_ne (pc := 136) (tgt := 144) dX12_forgets_136 (by decide) (fun h136 => ?_) (fun h136 => absurd h136 h3)
      refine pv_iload_4 (pc := 144) dX12_forgets_144 ?_
      refine pv_callV0 (pc := 146) dX12_forgets_146 mgX12_step lv_X12_286_12 (by decide) (sx_61 hT) (by omega) (c_X12_step hT hR (hv012 h3) (by omega)) rfl rfl (by decide) ?_
      refine pv_aload_0 (pc := 149) dX12_forgets_149 ?_
      refine pv_callV1 (pc := 150) dX12_forgets_150 mgX12_isRoom lv_X12_236_12 (by decide) (sx_61 hT) (by omega) (c_X12_isRoom hT) rfl rfl (by decide) ?_
      refine pv_if_eq (pc := 153) (tgt := 168) dX12_forgets_153 (by decide) (fun h153 => ?_) (fun h153 => ?_)
      · refine pv_iconst (pc := 168) (v := 0) dX12_forgets_168 (by decide) ?_
        refine pv_iret (pc := 169) dX12_forgets_169 rfl rfl ?_
        first
          | (have f1 : s_room (s_stepP (C i).toInt32 p q) (s_stepQ (C i).toInt32 p q) = false := (by have f0 := (pv_b_0 _).mp h153; rw [← hp, ← hq]; exact f0)
             have e1 : w_fgt C (m + 1) i p q ml = none := by rw [w_fgt, if_neg h3, if_neg (by rw [f1]; decide)]
             rw [e1]
             exact ⟨rfl, rfl, rfl, gI.rf.at _, gL.rf.pq _ _, fun ml1 h1 => by cases h1⟩)
          | (have f1 : s_room (s_stepP (C i).toInt32 p q) (s_stepQ (C i).toInt32 p q) = true := (by have f0 := (pv_b_n0 _).mp h153; rw [← hp, ← hq]; exact f0)
             have f2 := f_none h165
             have e1 : w_fgt C (m + 1) i p q ml = none := by rw [w_fgt, if_neg h3, if_pos f1, f2]
             rw [e1]
             exact ⟨rfl, rfl, rfl, (gI.rf.at _).tr hg, (gL.rf.pq _ _).tr hh, fun ml1 h1 => by cases h1⟩)
      · refine pv_aload_0 (pc := 156) dX12_forgets_156 ?_
        refine pv_iload_1 (pc := 157) dX12_forgets_157 ?_
        refine pv_iload_2 (pc := 158) dX12_forgets_158 ?_
        refine pv_iload_3 (pc := 159) dX12_forgets_159 ?_
        refine pv_iconst (pc := 160) (v := 1) dX12_forgets_160 (by decide) ?_
        refine pv_iadd (pc := 161) dX12_forgets_161 ?_
        refine pv_topv2 (y := Int32.ofNat (i + 1)) (i_inc i) ?_
        refine pv_callVq (pc := 162) dX12_forgets_162 mgX12_forgets lv_X12_355_12 (by decide) (sx_61 hT) (by omega) (ih (i + 1) (d - 1) (by omega) (by omega) _ _ (s_stepP (C i).toInt32 p q) (s_stepQ (C i).toInt32 p q) ml (fun j hj => hC j hj) (fun j h1 h2 => hv j (by omega) h2) (by rw [← hp, ← hq]; rfl) (by rw [← hp, ← hq]; rfl) (ms_cg hms rfl (fun _ => ⟨rfl, rfl⟩)) hl1) rfl rfl (by decide) (fun v t I L Rf hq => ?_)
        obtain ⟨rfl, rfl, rfl, hg, hh, hm1⟩ := hq
        refine pv_if_ne (pc := 165) (tgt := 170) dX12_forgets_165 (by decide) (fun h165 => ?_) (fun h165 => ?_)
        · refine pv_aload_0 (pc := 170) dX12_forgets_170 ?_
          refine pv_lload_5 (pc := 171) dX12_forgets_171 ?_
          refine pv_putL (pc := 173) dX12_forgets_173 fl_X12_150_12 (fun q => by cases q) (by decide) (sx_61 hT) ?_
          refine pv_aload_0 (pc := 176) dX12_forgets_176 ?_
          refine pv_lload_7 (pc := 177) dX12_forgets_177 ?_
          refine pv_putL (pc := 179) dX12_forgets_179 fl_X12_153_12 (fun q => by cases q) (by decide) (sx_61 hT) ?_
          refine pv_iinc_9 (pc := 182) (v := 1) dX12_forgets_182 (by decide) (by decide) rfl ?_
          refine pv_goto (pc := 185) (tgt := 116) dX12_forgets_185 (by decide) ?_
          refine pv_iload_9 (pc := 116) dX12_forgets_116 ?_
          refine pv_iload_4 (pc := 118) dX12_forgets_118 ?_
          refine pv_iconst (pc := 120) (v := 3) dX12_forgets_120 (by decide) ?_
          refine pv_icmp_ne (pc := 121) (tgt := 128) dX12_forgets_121 (by decide) (fun h121_1 => ?_) (fun h121_1 => absurd h121_1 h3)
          refine pv_iconst (pc := 128) (v := 1) dX12_forgets_128 (by decide) ?_
          refine pv_icmp_ge (pc := 129) (tgt := 188) dX12_forgets_129 (by decide) (fun _ => ?_) (fun q => absurd q (by decide))
          refine pv_iconst (pc := 188) (v := 1) dX12_forgets_188 (by decide) ?_
          refine pv_iret (pc := 189) dX12_forgets_189 rfl rfl ?_
          have f1 : s_room (s_stepP (C i).toInt32 p q) (s_stepQ (C i).toInt32 p q) = true := by have f0 := (pv_b_n0 _).mp h153; rw [← hp, ← hq]; exact f0
          obtain ⟨ml2, f2⟩ := f_some h165
          have e1 : w_fgt C (m + 1) i p q ml = some ml2 := by rw [w_fgt, if_neg h3, if_pos f1, f2]
          rw [e1]
          refine ⟨rfl, rfl, rfl, (gI.rf.at _).tr hg, (((gL.rf.pq _ _).tr hh).u 61 18 _ (by omega)).u 61 19 _ (by omega), fun ml1 h1 => ?_⟩
          cases h1
          exact ⟨ms_cg (hm1 _ f2).1 rfl (fun _ => ⟨rfl, rfl⟩), hp, hq⟩
        · refine pv_iconst (pc := 168) (v := 0) dX12_forgets_168 (by decide) ?_
          refine pv_iret (pc := 169) dX12_forgets_169 rfl rfl ?_
          first
            | (have f1 : s_room (s_stepP (C i).toInt32 p q) (s_stepQ (C i).toInt32 p q) = false := (by have f0 := (pv_b_0 _).mp h153; rw [← hp, ← hq]; exact f0)
               have e1 : w_fgt C (m + 1) i p q ml = none := by rw [w_fgt, if_neg h3, if_neg (by rw [f1]; decide)]
               rw [e1]
               exact ⟨rfl, rfl, rfl, gI.rf.at _, gL.rf.pq _ _, fun ml1 h1 => by cases h1⟩)
            | (have f1 : s_room (s_stepP (C i).toInt32 p q) (s_stepQ (C i).toInt32 p q) = true := (by have f0 := (pv_b_n0 _).mp h153; rw [← hp, ← hq]; exact f0)
               have f2 := f_none h165
               have e1 : w_fgt C (m + 1) i p q ml = none := by rw [w_fgt, if_neg h3, if_pos f1, f2]
               rw [e1]
               exact ⟨rfl, rfl, rfl, (gI.rf.at _).tr hg, (gL.rf.pq _ _).tr hh, fun ml1 h1 => by cases h1⟩)

