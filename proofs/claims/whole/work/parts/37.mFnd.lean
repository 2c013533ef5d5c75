/-! the rows of so many steps, and the first that ends at the aim -/
def w_fnd (a b : Int64) : Nat → Int64 → Int64 → Option (List Int32)
  | 0, p, q => if p = a ∧ q = b then some [] else none
  | m + 1, p, q => match w_fnd a b m (s_stepP 0 p q) (s_stepQ 0 p q) with
    | some l => some (0 :: l)
    | none => match w_fnd a b m (s_stepP 1 p q) (s_stepQ 1 p q) with
      | some l => some (1 :: l)
      | none => match w_fnd a b m (s_stepP 2 p q) (s_stepQ 2 p q) with
        | some l => some (2 :: l)
        | none => none
theorem w_fnd_0 {a b p q : Int64} {m : Nat} {l : List Int32} (h : w_fnd a b m (s_stepP 0 p q) (s_stepQ 0 p q) = some l) : w_fnd a b (m + 1) p q = some (0 :: l) := by rw [w_fnd, h]
theorem w_fnd_1 {a b p q : Int64} {m : Nat} {l : List Int32} (h0 : w_fnd a b m (s_stepP 0 p q) (s_stepQ 0 p q) = none) (h : w_fnd a b m (s_stepP 1 p q) (s_stepQ 1 p q) = some l) : w_fnd a b (m + 1) p q = some (1 :: l) := by rw [w_fnd, h0, h]
theorem w_fnd_2 {a b p q : Int64} {m : Nat} {l : List Int32} (h0 : w_fnd a b m (s_stepP 0 p q) (s_stepQ 0 p q) = none) (h1 : w_fnd a b m (s_stepP 1 p q) (s_stepQ 1 p q) = none) (h : w_fnd a b m (s_stepP 2 p q) (s_stepQ 2 p q) = some l) : w_fnd a b (m + 1) p q = some (2 :: l) := by rw [w_fnd, h0, h1, h]
theorem w_fnd_n {a b p q : Int64} {m : Nat} (h0 : w_fnd a b m (s_stepP 0 p q) (s_stepQ 0 p q) = none) (h1 : w_fnd a b m (s_stepP 1 p q) (s_stepQ 1 p q) = none) (h2 : w_fnd a b m (s_stepP 2 p q) (s_stepQ 2 p q) = none) : w_fnd a b (m + 1) p q = none := by rw [w_fnd, h0, h1, h2]
theorem w_fnd_len {a b : Int64} : ∀ {m : Nat} {p q : Int64} {l : List Int32}, w_fnd a b m p q = some l → l.length = m
  | 0, p, q, l, h => by
    rw [w_fnd] at h
    split at h
    · cases h; rfl
    · cases h
  | m + 1, p, q, l, h => by
    rw [w_fnd] at h
    split at h
    · rename_i l1 h1; cases h; rw [List.length_cons, w_fnd_len h1]
    · split at h
      · rename_i l1 h1; cases h; rw [List.length_cons, w_fnd_len h1]
      · split at h
        · rename_i l1 h1; cases h; rw [List.length_cons, w_fnd_len h1]
        · cases h
/-- memory as it was, but for the dancers in thought and what is tried from place k on -/
def fr (k : Nat) (I I1 : pv_I) : Prop := ∀ a j, a ≠ 73 → ¬ (a = 81 ∧ k ≤ j) → I1 a j = I a j
theorem fr.rf {k : Nat} {I : pv_I} : fr k I I := fun _ _ _ _ => rfl
theorem fr.tr {k : Nat} {I I1 I2 : pv_I} (h : fr k I I1) (g : fr k I1 I2) : fr k I I2 := fun a j h1 h2 => (g a j h1 h2).trans (h a j h1 h2)
theorem fr.mono {k n : Nat} {I I1 : pv_I} (h : fr n I I1) (g : k ≤ n) : fr k I I1 := fun a j h1 h2 => h a j h1 (fun r => h2 ⟨r.1, by omega⟩)
theorem fr.at {k : Nat} {I I1 : pv_I} (h : fr k I I1) (c : Nat → Int32) : fr k I (m_at I1 c) := fun a j h1 h2 => by rw [m_at_app, if_neg (fun r => h1 r.1)]; exact h a j h1 h2
theorem fr.u {k : Nat} {I I1 : pv_I} (h : fr k I I1) {j : Nat} {v : Int32} (hj : k ≤ j) : fr k I (pv_u I1 81 j v) := fun a i h1 h2 => by rw [pv_u_app, if_neg (fun r => h2 ⟨r.1, by omega⟩)]; exact h a i h1 h2
theorem fr.kS {k : Nat} {I I1 : pv_I} {L : pv_L} (h : fr k I I1) : kS I L I1 L :=
  ⟨fun j _ => h 61 j (by decide) (fun r => absurd r.1 (by decide)), rfl, rfl, fun a ha => funext fun j => h a j (by omega) (by omega), fun _ _ => rfl⟩
/-- what the tried row holds from place k on -/
def tr_ok (I : pv_I) (k : Nat) (l : List Int32) : Prop := ∀ j x, l[j]? = some x → I 81 (k + j) = x
theorem tr_ok.cons {I : pv_I} {k : Nat} {l : List Int32} {s : Int32} (h : tr_ok I (k + 1) l) (h0 : I 81 k = s) : tr_ok I k (s :: l) := by
  intro j x hx
  cases j with
  | zero => rw [List.getElem?_cons_zero] at hx; cases hx; exact h0
  | succ j => rw [List.getElem?_cons_succ] at hx; rw [show k + (j + 1) = k + 1 + j by omega]; exact h j x hx
def q_fnd (a b : Int64) (m k : Nat) (p q : Int64) (t : pv_T) (I : pv_I) (L : pv_L) (Rf : pv_R) : pv_Q := fun v t1 I1 L1 R1 => v = some (.int (pv_b (w_fnd a b m p q).isSome)) ∧ t1 = t ∧ R1 = Rf ∧ L1 = L ∧ fr k I I1 ∧ (∀ l, w_fnd a b m p q = some l → tr_ok I1 k l)
theorem m_pq_back (L : pv_L) (p q : Int64) : pv_u (pv_u (m_pq L p q) 61 18 (L 61 18)) 61 19 (L 61 19) = L := by
  show m_pq (m_pq L p q) (L 61 18) (L 61 19) = L
  rw [m_pq_pq, m_pq_self]
theorem o_some {x : Option (List Int32)} (h : ¬ pv_b x.isSome = 0) : ∃ l, x = some l := by
  cases x with
  | none => exact absurd rfl h
  | some l => exact ⟨l, rfl⟩
theorem o_none {x : Option (List Int32)} (h : pv_b x.isSome = 0) : x = none := by
  cases x with
  | none => rfl
  | some l => exact absurd (show (1 : Int32) = 0 from h) (by decide)

set_option maxRecDepth 100000 in
set_option maxHeartbeats 4000000 in
theorem l_fnd {G : pv_G} {a b : Int64} {n : Int32} {t : pv_T} {Rf : pv_R} (hT : sh_ok t) (hR : rf_ok Rf) (h0 : 0 ≤ n.toInt) (hn : n.toInt ≤ 9) : ∀ (m k d : Nat), k + m = n.toNatClampNeg → m + 2 ≤ d → ∀ (I : pv_I) (L : pv_L) (p q : Int64), L 61 18 = p → L 61 19 = q → L 61 45 = a → L 61 46 = b →
    pv_Mt G mX12_finds d 0 0 [.ref 61, .int (Int32.ofNat k), .int n] t I L Rf (q_fnd a b m k p q t I L Rf) := by
  intro m
  induction m with
  | zero =>
    intro k d hk hd I L p q hp hq ha hb
    have hnl := i_lit n
    have hkn : Int32.ofNat k = n := by rw [← Int32.toInt_inj, i_of (by omega)]; omega
    refine pv_mt mgX12_finds.2.2.2.2.2 [.ref 61, .int (Int32.ofNat k), .int n, .retAddr 0, .retAddr 0, .retAddr 0, .retAddr 0, .retAddr 0, .retAddr 0] rfl (Nat.le_of_ble_eq_true rfl) ?_
    refine pv_iload_1 (pc := 0) dX12_finds_0 ?_
    refine pv_iload_2 (pc := 1) dX12_finds_1 ?_
    refine pv_icmp_ne (pc := 2) (tgt := 35) dX12_finds_2 (by decide) (fun h2 => absurd h2 (not_not_intro (by rw [← hkn]))) (fun h2 => ?_)
    refine pv_aload_0 (pc := 5) dX12_finds_5 ?_
    refine pv_getL (pc := 6) dX12_finds_6 fg_X12_150_12 (by decide) (sx_61 hT) ?_
    refine pv_aload_0 (pc := 9) dX12_finds_9 ?_
    refine pv_getL (pc := 10) dX12_finds_10 fg_X12_280_12 (by decide) (sx_61 hT) ?_
    refine pv_lcmp_ne (pc := 13) (tgt := 33) dX12_finds_13 dX12_finds_14 (by decide) (fun h13 => ?_) (fun h13 => ?_)
    · refine pv_iconst (pc := 33) (v := 0) dX12_finds_33 (by decide) ?_
      refine pv_iret (pc := 34) dX12_finds_34 rfl rfl ?_
      refine ⟨congrArg (fun z => some (Value.int z)) ?_, rfl, rfl, rfl, fr.rf, fun l hl j x hx => ?_⟩
      · rw [w_fnd]
        first
          | (have f1 := h13; rw [hp, ha] at f1; rw [if_neg (fun r => f1 r.1)]; rfl)
          | (have f1 := h25; rw [hq, hb] at f1; rw [if_neg (fun r => f1 r.2)]; rfl)
          | (have f1 := h13; have f2 := h25; rw [hp, ha] at f1; rw [hq, hb] at f2; rw [if_pos ⟨f1, f2⟩]; rfl)
      · rw [w_fnd] at hl
        split at hl
        · cases hl; cases hx
        · cases hl
    · refine pv_aload_0 (pc := 17) dX12_finds_17 ?_
      refine pv_getL (pc := 18) dX12_finds_18 fg_X12_153_12 (by decide) (sx_61 hT) ?_
      refine pv_aload_0 (pc := 21) dX12_finds_21 ?_
      refine pv_getL (pc := 22) dX12_finds_22 fg_X12_283_12 (by decide) (sx_61 hT) ?_
      refine pv_lcmp_ne (pc := 25) (tgt := 33) dX12_finds_25 dX12_finds_26 (by decide) (fun h25 => ?_) (fun h25 => ?_)
      · refine pv_iconst (pc := 33) (v := 0) dX12_finds_33 (by decide) ?_
        refine pv_iret (pc := 34) dX12_finds_34 rfl rfl ?_
        refine ⟨congrArg (fun z => some (Value.int z)) ?_, rfl, rfl, rfl, fr.rf, fun l hl j x hx => ?_⟩
        · rw [w_fnd]
          first
            | (have f1 := h13; rw [hp, ha] at f1; rw [if_neg (fun r => f1 r.1)]; rfl)
            | (have f1 := h25; rw [hq, hb] at f1; rw [if_neg (fun r => f1 r.2)]; rfl)
            | (have f1 := h13; have f2 := h25; rw [hp, ha] at f1; rw [hq, hb] at f2; rw [if_pos ⟨f1, f2⟩]; rfl)
        · rw [w_fnd] at hl
          split at hl
          · cases hl; cases hx
          · cases hl
      · refine pv_iconst (pc := 29) (v := 1) dX12_finds_29 (by decide) ?_
        refine pv_goto (pc := 30) (tgt := 34) dX12_finds_30 (by decide) ?_
        refine pv_iret (pc := 34) dX12_finds_34 rfl rfl ?_
        refine ⟨congrArg (fun z => some (Value.int z)) ?_, rfl, rfl, rfl, fr.rf, fun l hl j x hx => ?_⟩
        · rw [w_fnd]
          first
            | (have f1 := h13; rw [hp, ha] at f1; rw [if_neg (fun r => f1 r.1)]; rfl)
            | (have f1 := h25; rw [hq, hb] at f1; rw [if_neg (fun r => f1 r.2)]; rfl)
            | (have f1 := h13; have f2 := h25; rw [hp, ha] at f1; rw [hq, hb] at f2; rw [if_pos ⟨f1, f2⟩]; rfl)
        · rw [w_fnd] at hl
          split at hl
          · cases hl; cases hx
          · cases hl
  | succ m ih =>
    intro k d hk hd I L p q hp hq ha hb
    have hnl := i_lit n
    refine pv_mt mgX12_finds.2.2.2.2.2 [.ref 61, .int (Int32.ofNat k), .int n, .retAddr 0, .retAddr 0, .retAddr 0, .retAddr 0, .retAddr 0, .retAddr 0] rfl (Nat.le_of_ble_eq_true rfl) ?_
    refine pv_iload_1 (pc := 0) dX12_finds_0 ?_
    refine pv_iload_2 (pc := 1) dX12_finds_1 ?_
    refine pv_icmp_ne (pc := 2) (tgt := 35) dX12_finds_2 (by decide) (fun h2 => ?_) (fun h2 => absurd h2 (by intro r; rw [← Int32.toInt_inj, i_of (by omega)] at r; have := i_lit n; omega))
    refine pv_aload_0 (pc := 35) dX12_finds_35 ?_
    refine pv_getL (pc := 36) dX12_finds_36 fg_X12_150_12 (by decide) (sx_61 hT) ?_
    refine pv_lstore_3 (pc := 39) dX12_finds_39 (by decide) rfl ?_
    refine pv_aload_0 (pc := 40) dX12_finds_40 ?_
    refine pv_getL (pc := 41) dX12_finds_41 fg_X12_153_12 (by decide) (sx_61 hT) ?_
    refine pv_lstore_5 (pc := 44) dX12_finds_44 (by decide) rfl ?_
    refine pv_iconst (pc := 46) (v := 0) dX12_finds_46 (by decide) ?_
    refine pv_istore_7 (pc := 47) dX12_finds_47 (by decide) rfl ?_
    refine pv_iload_7 (pc := 49) dX12_finds_49 ?_
    refine pv_iconst (pc := 51) (v := 3) dX12_finds_51 (by decide) ?_
    refine pv_icmp_ge (pc := 52) (tgt := 103) dX12_finds_52 (by decide) (fun q => absurd q (by decide)) (fun _ => ?_)
    refine pv_aload_0 (pc := 55) dX12_finds_55 ?_
    refine pv_getR (pc := 56) dX12_finds_56 fg_X12_79_12 rfl (by decide) (sx_61 hT) (rx_61_37 hR) ?_
    refine pv_iload_1 (pc := 59) dX12_finds_59 ?_
    refine pv_iload_7 (pc := 60) dX12_finds_60 ?_
    refine pv_iastorej (pc := 62) dX12_finds_62 (by decide) (sx_81 hT) rfl (i_in (k := k) (by omega) (by decide)) ?_
    refine pv_aload_0 (pc := 63) dX12_finds_63 ?_
    refine pv_iload_7 (pc := 64) dX12_finds_64 ?_
    refine pv_callV0 (pc := 66) dX12_finds_66 mgX12_step lv_X12_286_12 (by decide) (sx_61 hT) (by omega) (c_X12_step hT hR (by decide) (by omega)) rfl rfl (by decide) ?_
    refine pv_aload_0 (pc := 69) dX12_finds_69 ?_
    refine pv_iload_1 (pc := 70) dX12_finds_70 ?_
    refine pv_iconst (pc := 71) (v := 1) dX12_finds_71 (by decide) ?_
    refine pv_iadd (pc := 72) dX12_finds_72 ?_
    refine pv_topv2 (y := Int32.ofNat (k + 1)) (i_inc k) ?_
    refine pv_iload_2 (pc := 73) dX12_finds_73 ?_
    refine pv_callVq (pc := 74) dX12_finds_74 mgX12_finds lv_X12_289_12 (by decide) (sx_61 hT) (by omega) (ih (k + 1) (d - 1) (by omega) (by omega) _ _ (s_stepP 0 p q) (s_stepQ 0 p q) (by rw [← hp, ← hq]; rfl) (by rw [← hp, ← hq]; rfl) ha hb) rfl rfl (by decide) (fun v t I L Rf hq => ?_)
    obtain ⟨rfl, rfl, rfl, rfl, hf0, hs0⟩ := hq
    have hk0 : I 81 k = 0 := by
      rw [hf0 81 k (by decide) (by omega), m_at_app, if_neg (by omega), pv_u_app, if_pos ⟨rfl, (i_nat (by omega)).symm⟩]
    have hF0 : fr k _ I := ((fr.rf.u (by have e := i_nat (k := k) (by omega); omega)).at _).tr (hf0.mono (by omega))
    refine pv_istore_8 (pc := 77) dX12_finds_77 (by decide) rfl ?_
    refine pv_aload_0 (pc := 79) dX12_finds_79 ?_
    refine pv_lload_3 (pc := 80) dX12_finds_80 ?_
    refine pv_putL (pc := 81) dX12_finds_81 fl_X12_150_12 (fun q => by cases q) (by decide) (sx_61 hT) ?_
    refine pv_aload_0 (pc := 84) dX12_finds_84 ?_
    refine pv_lload_5 (pc := 85) dX12_finds_85 ?_
    refine pv_putL (pc := 87) dX12_finds_87 fl_X12_153_12 (fun q => by cases q) (by decide) (sx_61 hT) ?_
    refine pv_memL (L := L) (m_pq_back L _ _) ?_
    refine pv_iload_8 (pc := 90) dX12_finds_90 ?_
    refine pv_if_eq (pc := 92) (tgt := 97) dX12_finds_92 (by decide) (fun h92 => ?_) (fun h92 => ?_)
    · refine pv_iinc_7 (pc := 97) (v := 1) dX12_finds_97 (by decide) (by decide) rfl ?_
      refine pv_goto (pc := 100) (tgt := 49) dX12_finds_100 (by decide) ?_
      refine pv_iload_7 (pc := 49) dX12_finds_49 ?_
      refine pv_iconst (pc := 51) (v := 3) dX12_finds_51 (by decide) ?_
      refine pv_icmp_ge (pc := 52) (tgt := 103) dX12_finds_52 (by decide) (fun q => absurd q (by decide)) (fun _ => ?_)
      refine pv_aload_0 (pc := 55) dX12_finds_55 ?_
      refine pv_getR (pc := 56) dX12_finds_56 fg_X12_79_12 rfl (by decide) (sx_61 hT) (rx_61_37 hR) ?_
      refine pv_iload_1 (pc := 59) dX12_finds_59 ?_
      refine pv_iload_7 (pc := 60) dX12_finds_60 ?_
      refine pv_iastorej (pc := 62) dX12_finds_62 (by decide) (sx_81 hT) rfl (i_in (k := k) (by omega) (by decide)) ?_
      refine pv_aload_0 (pc := 63) dX12_finds_63 ?_
      refine pv_iload_7 (pc := 64) dX12_finds_64 ?_
      refine pv_callV0 (pc := 66) dX12_finds_66 mgX12_step lv_X12_286_12 (by decide) (sx_61 hT) (by omega) (c_X12_step hT hR (by decide) (by omega)) rfl rfl (by decide) ?_
      refine pv_aload_0 (pc := 69) dX12_finds_69 ?_
      refine pv_iload_1 (pc := 70) dX12_finds_70 ?_
      refine pv_iconst (pc := 71) (v := 1) dX12_finds_71 (by decide) ?_
      refine pv_iadd (pc := 72) dX12_finds_72 ?_
      refine pv_topv2 (y := Int32.ofNat (k + 1)) (i_inc k) ?_
      refine pv_iload_2 (pc := 73) dX12_finds_73 ?_
      refine pv_callVq (pc := 74) dX12_finds_74 mgX12_finds lv_X12_289_12 (by decide) (sx_61 hT) (by omega) (ih (k + 1) (d - 1) (by omega) (by omega) _ _ (s_stepP 1 p q) (s_stepQ 1 p q) (by rw [← hp, ← hq]; rfl) (by rw [← hp, ← hq]; rfl) ha hb) rfl rfl (by decide) (fun v t I L Rf hq => ?_)
      obtain ⟨rfl, rfl, rfl, rfl, hf1, hs1⟩ := hq
      have hk1 : I 81 k = 1 := by
        rw [hf1 81 k (by decide) (by omega), m_at_app, if_neg (by omega), pv_u_app, if_pos ⟨rfl, (i_nat (by omega)).symm⟩]
      have hF1 : fr k _ I := hF0.tr (((fr.rf.u (by have e := i_nat (k := k) (by omega); omega)).at _).tr (hf1.mono (by omega)))
      refine pv_istore_8 (pc := 77) dX12_finds_77 (by decide) rfl ?_
      refine pv_aload_0 (pc := 79) dX12_finds_79 ?_
      refine pv_lload_3 (pc := 80) dX12_finds_80 ?_
      refine pv_putL (pc := 81) dX12_finds_81 fl_X12_150_12 (fun q => by cases q) (by decide) (sx_61 hT) ?_
      refine pv_aload_0 (pc := 84) dX12_finds_84 ?_
      refine pv_lload_5 (pc := 85) dX12_finds_85 ?_
      refine pv_putL (pc := 87) dX12_finds_87 fl_X12_153_12 (fun q => by cases q) (by decide) (sx_61 hT) ?_
      refine pv_memL (L := L) (m_pq_back L _ _) ?_
      refine pv_iload_8 (pc := 90) dX12_finds_90 ?_
      refine pv_if_eq (pc := 92) (tgt := 97) dX12_finds_92 (by decide) (fun h92_1 => ?_) (fun h92_1 => ?_)
      · refine pv_iinc_7 (pc := 97) (v := 2) dX12_finds_97 (by decide) (by decide) rfl ?_
        refine pv_goto (pc := 100) (tgt := 49) dX12_finds_100 (by decide) ?_
        refine pv_iload_7 (pc := 49) dX12_finds_49 ?_
        refine pv_iconst (pc := 51) (v := 3) dX12_finds_51 (by decide) ?_
        refine pv_icmp_ge (pc := 52) (tgt := 103) dX12_finds_52 (by decide) (fun q => absurd q (by decide)) (fun _ => ?_)
        refine pv_aload_0 (pc := 55) dX12_finds_55 ?_
        refine pv_getR (pc := 56) dX12_finds_56 fg_X12_79_12 rfl (by decide) (sx_61 hT) (rx_61_37 hR) ?_
        refine pv_iload_1 (pc := 59) dX12_finds_59 ?_
        refine pv_iload_7 (pc := 60) dX12_finds_60 ?_
        refine pv_iastorej (pc := 62) dX12_finds_62 (by decide) (sx_81 hT) rfl (i_in (k := k) (by omega) (by decide)) ?_
        refine pv_aload_0 (pc := 63) dX12_finds_63 ?_
        refine pv_iload_7 (pc := 64) dX12_finds_64 ?_
        refine pv_callV0 (pc := 66) dX12_finds_66 mgX12_step lv_X12_286_12 (by decide) (sx_61 hT) (by omega) (c_X12_step hT hR (by decide) (by omega)) rfl rfl (by decide) ?_
        refine pv_aload_0 (pc := 69) dX12_finds_69 ?_
        refine pv_iload_1 (pc := 70) dX12_finds_70 ?_
        refine pv_iconst (pc := 71) (v := 1) dX12_finds_71 (by decide) ?_
        refine pv_iadd (pc := 72) dX12_finds_72 ?_
        refine pv_topv2 (y := Int32.ofNat (k + 1)) (i_inc k) ?_
        refine pv_iload_2 (pc := 73) dX12_finds_73 ?_
        refine pv_callVq (pc := 74) dX12_finds_74 mgX12_finds lv_X12_289_12 (by decide) (sx_61 hT) (by omega) (ih (k + 1) (d - 1) (by omega) (by omega) _ _ (s_stepP 2 p q) (s_stepQ 2 p q) (by rw [← hp, ← hq]; rfl) (by rw [← hp, ← hq]; rfl) ha hb) rfl rfl (by decide) (fun v t I L Rf hq => ?_)
        obtain ⟨rfl, rfl, rfl, rfl, hf2, hs2⟩ := hq
        have hk2 : I 81 k = 2 := by
          rw [hf2 81 k (by decide) (by omega), m_at_app, if_neg (by omega), pv_u_app, if_pos ⟨rfl, (i_nat (by omega)).symm⟩]
        have hF2 : fr k _ I := hF1.tr (((fr.rf.u (by have e := i_nat (k := k) (by omega); omega)).at _).tr (hf2.mono (by omega)))
        refine pv_istore_8 (pc := 77) dX12_finds_77 (by decide) rfl ?_
        refine pv_aload_0 (pc := 79) dX12_finds_79 ?_
        refine pv_lload_3 (pc := 80) dX12_finds_80 ?_
        refine pv_putL (pc := 81) dX12_finds_81 fl_X12_150_12 (fun q => by cases q) (by decide) (sx_61 hT) ?_
        refine pv_aload_0 (pc := 84) dX12_finds_84 ?_
        refine pv_lload_5 (pc := 85) dX12_finds_85 ?_
        refine pv_putL (pc := 87) dX12_finds_87 fl_X12_153_12 (fun q => by cases q) (by decide) (sx_61 hT) ?_
        refine pv_memL (L := L) (m_pq_back L _ _) ?_
        refine pv_iload_8 (pc := 90) dX12_finds_90 ?_
        refine pv_if_eq (pc := 92) (tgt := 97) dX12_finds_92 (by decide) (fun h92_2 => ?_) (fun h92_2 => ?_)
        · refine pv_iinc_7 (pc := 97) (v := 3) dX12_finds_97 (by decide) (by decide) rfl ?_
          refine pv_goto (pc := 100) (tgt := 49) dX12_finds_100 (by decide) ?_
          refine pv_iload_7 (pc := 49) dX12_finds_49 ?_
          refine pv_iconst (pc := 51) (v := 3) dX12_finds_51 (by decide) ?_
          refine pv_icmp_ge (pc := 52) (tgt := 103) dX12_finds_52 (by decide) (fun _ => ?_) (fun q => absurd q (by decide))
          refine pv_iconst (pc := 103) (v := 0) dX12_finds_103 (by decide) ?_
          refine pv_iret (pc := 104) dX12_finds_104 rfl rfl ?_
          exact ⟨congrArg (fun z => some (Value.int z)) (by rw [w_fnd_n (o_none h92) (o_none h92_1) (o_none h92_2)]; rfl), rfl, rfl, rfl, hF2, fun l hl => by rw [w_fnd_n (o_none h92) (o_none h92_1) (o_none h92_2)] at hl; cases hl⟩
        · refine pv_iconst (pc := 95) (v := 1) dX12_finds_95 (by decide) ?_
          refine pv_iret (pc := 96) dX12_finds_96 rfl rfl ?_
          exact ⟨congrArg (fun z => some (Value.int z)) (by obtain ⟨l, hl⟩ := o_some h92_2; rw [w_fnd_2 (o_none h92) (o_none h92_1) hl]; rfl), rfl, rfl, rfl, hF2, fun l hl => by obtain ⟨l0, h0⟩ := o_some h92_2; rw [w_fnd_2 (o_none h92) (o_none h92_1) h0] at hl; cases hl; exact (hs2 _ h0).cons hk2⟩
      · refine pv_iconst (pc := 95) (v := 1) dX12_finds_95 (by decide) ?_
        refine pv_iret (pc := 96) dX12_finds_96 rfl rfl ?_
        exact ⟨congrArg (fun z => some (Value.int z)) (by obtain ⟨l, hl⟩ := o_some h92_1; rw [w_fnd_1 (o_none h92) hl]; rfl), rfl, rfl, rfl, hF1, fun l hl => by obtain ⟨l0, h0⟩ := o_some h92_1; rw [w_fnd_1 (o_none h92) h0] at hl; cases hl; exact (hs1 _ h0).cons hk1⟩
    · refine pv_iconst (pc := 95) (v := 1) dX12_finds_95 (by decide) ?_
      refine pv_iret (pc := 96) dX12_finds_96 rfl rfl ?_
      exact ⟨congrArg (fun z => some (Value.int z)) (by obtain ⟨l, hl⟩ := o_some h92; rw [w_fnd_0 hl]; rfl), rfl, rfl, rfl, hF0, fun l hl => by obtain ⟨l0, h0⟩ := o_some h92; rw [w_fnd_0 h0] at hl; cases hl; exact (hs0 _ h0).cons hk0⟩

def w_lst (a b : Int64) : Nat → Nat → Option (List Int32)
  | 0, _ => none
  | m + 1, n => match w_fnd a b n 0 1 with
    | some l => some l
    | none => w_lst a b m (n + 1)
def S_foundAt (J : pv_I) (K : pv_L) (i : Int32) : Option (List Int32) → SR
  | none => S_ref J K 5 (.int (-5 - 10))
  | some l => if i < -1 ∨ ¬ i < Int32.ofNat l.length then S_ref J K 5 (.int (-5 - 10)) else if i = -1 then (.int (Int32.ofNat l.length), J, K) else (.int (l.getD i.toNatClampNeg 0), J, K)
theorem S_found_s (J : pv_I) (K : pv_L) (i : Int32) (l : List Int32) : S_foundAt J K i (some l) = if i < -1 ∨ ¬ i < Int32.ofNat l.length then S_ref J K 5 (.int (-5 - 10)) else if i = -1 then (.int (Int32.ofNat l.length), J, K) else (.int (l.getD i.toNatClampNeg 0), J, K) := rfl
def S_least (J : pv_I) (K : pv_L) (a b : Int64) (i : Int32) : SR := if s_num a b = true then S_foundAt J K i (w_lst a b 10 0) else S_ref J K 6 (.int (-6 - 10))
theorem tr_getD {I : pv_I} {l : List Int32} (h : tr_ok I 0 l) {j : Nat} (hj : j < l.length) : I 81 j = l.getD j 0 := by
  have e := h j (l[j]) (List.getElem?_eq_getElem hj)
  rw [Nat.zero_add] at e
  rw [e, List.getD_eq_getElem?_getD, List.getElem?_eq_getElem hj]; rfl
theorem i_ixl {i : Int32} {n : Nat} (h1 : ¬ i < -1) (h2 : ¬ i = -1) (h3 : i < Int32.ofNat n) (hn : n < 2147483648) : 0 ≤ i.toInt ∧ i.toInt < n ∧ i.toNatClampNeg < n := by
  have hl := i_lit i
  simp only [i_lt, ← Int32.toInt_inj, i_of hn, (show ((-1) : Int32).toInt = (-1) from by decide)] at h1 h2 h3
  omega
set_option maxRecDepth 100000 in
set_option maxHeartbeats 4000000 in
theorem c_X12_zero {G : pv_G} {d : Nat} {t : pv_T} {I : pv_I} {L : pv_L} {Rf : pv_R} (hT : sh_ok t) : pv_Mt G mX12_zero d 0 0 [.ref 61] t I L Rf (pv_is none t I (m_pq L 0 1) Rf) := by
  refine pv_mt mgX12_zero.2.2.2.2.2 [.ref 61] rfl (Nat.le_of_ble_eq_true rfl) ?_
  refine pv_aload_0 (pc := 0) dX12_zero_0 ?_
  refine pv_lconst (pc := 1) (v := 0) dX12_zero_1 (by decide) ?_
  refine pv_putL (pc := 2) dX12_zero_2 fl_X12_150_12 (fun q => by cases q) (by decide) (sx_61 hT) ?_
  refine pv_aload_0 (pc := 5) dX12_zero_5 ?_
  refine pv_lconst (pc := 6) (v := 1) dX12_zero_6 (by decide) ?_
  refine pv_putL (pc := 7) dX12_zero_7 fl_X12_153_12 (fun q => by cases q) (by decide) (sx_61 hT) ?_
  refine pv_vret (pc := 10) dX12_zero_10 rfl ?_
  exact ⟨rfl, rfl, rfl, rfl, rfl⟩

set_option maxRecDepth 100000 in
set_option maxHeartbeats 4000000 in
theorem l_least {G : pv_G} {d : Nat} {J : pv_I} {K : pv_L} {a b : Int64} {i : Int32} {t : pv_T} {I0 : pv_I} {L0 : pv_L} {Rf : pv_R} {r : SR} (hT : sh_ok t) (hR : rf_ok Rf) (hM : RM J K I0 L0) (hd : 16 ≤ d) : ∀ (m n : Nat) (I : pv_I) (L : pv_L), kS I0 L0 I L → L 61 45 = a → L 61 46 = b → n + m = 10 → S_foundAt J K i (w_lst a b m n) = r →
    pv_V G mX12_least d 0 0 (qM r t I0 L0 Rf) 0 0 29 [.ref 61, .long a, .retAddr 0, .long b, .retAddr 0, .int i, .int (Int32.ofNat n)] [] t I L Rf := by
  intro m
  induction m with
  | zero =>
    intro n I L hk ha hb hn hr
    refine pv_iload_6 (pc := 29) dX12_least_29 ?_
    refine pv_bipush (pc := 31) (v := 9) dX12_least_31 (by decide) ?_
    refine pv_icmp_gt (pc := 33) (tgt := 98) dX12_least_33 (by decide) (fun h33 => ?_) (fun h33 => absurd h33 (not_not_intro (by rw [i_lt, i_of (by omega), show (9 : Int32).toInt = 9 by decide]; omega)))
    refine pv_aload_0 (pc := 98) dX12_least_98 ?_
    refine pv_bipush (pc := 99) (v := (-5)) dX12_least_99 (by decide) ?_
    refine pv_callV1 (pc := 101) dX12_least_101 mgX12_noTen lv_X12_292_12 (by decide) (sx_61 hT) (by omega) (c_X12_noTen (k := 5) hT hR (by decide) (by unfold vp_in; decide)) rfl rfl (by decide) ?_
    refine pv_iret (pc := 104) dX12_least_104 rfl rfl ?_
    rw [w_lst] at hr
    exact qM.scrref hM hk k_lt5b hr.symm
  | succ m ih =>
    intro n I L hk ha hb hn hr
    refine pv_iload_6 (pc := 29) dX12_least_29 ?_
    refine pv_bipush (pc := 31) (v := 9) dX12_least_31 (by decide) ?_
    refine pv_icmp_gt (pc := 33) (tgt := 98) dX12_least_33 (by decide) (fun h33 => absurd h33 (by rw [i_lt, i_of (by omega), show (9 : Int32).toInt = 9 by decide]; omega)) (fun h33 => ?_)
    refine pv_aload_0 (pc := 36) dX12_least_36 ?_
    refine pv_callV0 (pc := 37) dX12_least_37 mgX12_zero lv_X12_295_12 (by decide) (sx_61 hT) (by omega) (c_X12_zero hT) rfl rfl (by decide) ?_
    refine pv_aload_0 (pc := 40) dX12_least_40 ?_
    refine pv_iconst (pc := 41) (v := 0) dX12_least_41 (by decide) ?_
    refine pv_iload_6 (pc := 42) dX12_least_42 ?_
    refine pv_callVq (pc := 44) dX12_least_44 mgX12_finds lv_X12_289_12 (by decide) (sx_61 hT) (by omega) (l_fnd (a := a) (b := b) hT hR (by rw [i_of (by omega)]; omega) (by rw [i_of (by omega)]; omega) n 0 (d - 1) (by rw [i_nat (by omega)]; omega) (by omega) _ _ 0 1 rfl rfl ha hb) rfl rfl (by decide) (fun v t I L Rf hq => ?_)
    obtain ⟨rfl, rfl, rfl, rfl, hf, hs⟩ := hq
    have hk1 := (hk.pq 0 1).tr hf.kS
    refine pv_if_ne (pc := 47) (tgt := 53) dX12_least_47 (by decide) (fun h47 => ?_) (fun h47 => ?_)
    · refine pv_iload_5 (pc := 53) dX12_least_53 ?_
      refine pv_iconst (pc := 55) (v := (-1)) dX12_least_55 (by decide) ?_
      refine pv_icmp_lt (pc := 56) (tgt := 66) dX12_least_56 (by decide) (fun h56 => ?_) (fun h56 => ?_)
      · refine pv_aload_0 (pc := 66) dX12_least_66 ?_
        refine pv_bipush (pc := 67) (v := (-5)) dX12_least_67 (by decide) ?_
        refine pv_callV1 (pc := 69) dX12_least_69 mgX12_noTen lv_X12_292_12 (by decide) (sx_61 hT) (by omega) (c_X12_noTen (k := 5) hT hR (by decide) (by unfold vp_in; decide)) rfl rfl (by decide) ?_
        refine pv_iret (pc := 72) dX12_least_72 rfl rfl ?_
        obtain ⟨l, hl⟩ := o_some h47
        have hlen := w_fnd_len hl
        have hto := hs l hl
        rw [w_lst, hl] at hr
        have hr : S_foundAt J K i (some l) = r := hr
        rw [← hr]
        rw [S_found_s, hlen]
        first
          | (have f1 := h56; refine qM.scrref hM hk1 k_lt5b ?_; rw [if_pos (Or.inl f1)]; done)
          | (have f1 := h63; refine qM.scrref hM hk1 k_lt5b ?_; rw [if_pos (Or.inr f1)]; done)
      · refine pv_iload_5 (pc := 59) dX12_least_59 ?_
        refine pv_iload_6 (pc := 61) dX12_least_61 ?_
        refine pv_icmp_lt (pc := 63) (tgt := 73) dX12_least_63 (by decide) (fun h63 => ?_) (fun h63 => ?_)
        · refine pv_iload_5 (pc := 73) dX12_least_73 ?_
          refine pv_iconst (pc := 75) (v := (-1)) dX12_least_75 (by decide) ?_
          refine pv_icmp_ne (pc := 76) (tgt := 84) dX12_least_76 (by decide) (fun h76 => ?_) (fun h76 => ?_)
          · refine pv_aload_0 (pc := 84) dX12_least_84 ?_
            refine pv_getR (pc := 85) dX12_least_85 fg_X12_79_12 rfl (by decide) (sx_61 hT) (rx_61_37 hR) ?_
            refine pv_iload_5 (pc := 88) dX12_least_88 ?_
            refine pv_ialoadj (pc := 90) dX12_least_90 (sx_81 hT) rfl (by have hx := i_ixl h56 h76 h63 (by omega); exact pv_in_of (by omega) (by omega)) ?_
            refine pv_iret (pc := 91) dX12_least_91 rfl rfl ?_
            obtain ⟨l, hl⟩ := o_some h47
            have hlen := w_fnd_len hl
            have hto := hs l hl
            rw [w_lst, hl] at hr
            have hr : S_foundAt J K i (some l) = r := hr
            rw [← hr]
            rw [S_found_s, hlen]
            rw [if_neg (fun q => q.elim h56 (fun z => z h63))]
            first
              | (have f1 := h76; rw [if_pos f1]; exact qM.scr hM hk1 rfl)
              | (have f1 := h76
                 have hx := i_ixl h56 f1 h63 (by omega)
                 rw [if_neg f1]
                 refine qM.scr hM hk1 ?_
                 rw [← tr_getD hto (by omega)])
          · refine pv_iload_6 (pc := 79) dX12_least_79 ?_
            refine pv_goto (pc := 81) (tgt := 91) dX12_least_81 (by decide) ?_
            refine pv_iret (pc := 91) dX12_least_91 rfl rfl ?_
            obtain ⟨l, hl⟩ := o_some h47
            have hlen := w_fnd_len hl
            have hto := hs l hl
            rw [w_lst, hl] at hr
            have hr : S_foundAt J K i (some l) = r := hr
            rw [← hr]
            rw [S_found_s, hlen]
            rw [if_neg (fun q => q.elim h56 (fun z => z h63))]
            first
              | (have f1 := h76; rw [if_pos f1]; exact qM.scr hM hk1 rfl)
              | (have f1 := h76
                 have hx := i_ixl h56 f1 h63 (by omega)
                 rw [if_neg f1]
                 refine qM.scr hM hk1 ?_
                 rw [← tr_getD hto (by omega)])
        · refine pv_aload_0 (pc := 66) dX12_least_66 ?_
          refine pv_bipush (pc := 67) (v := (-5)) dX12_least_67 (by decide) ?_
          refine pv_callV1 (pc := 69) dX12_least_69 mgX12_noTen lv_X12_292_12 (by decide) (sx_61 hT) (by omega) (c_X12_noTen (k := 5) hT hR (by decide) (by unfold vp_in; decide)) rfl rfl (by decide) ?_
          refine pv_iret (pc := 72) dX12_least_72 rfl rfl ?_
          obtain ⟨l, hl⟩ := o_some h47
          have hlen := w_fnd_len hl
          have hto := hs l hl
          rw [w_lst, hl] at hr
          have hr : S_foundAt J K i (some l) = r := hr
          rw [← hr]
          rw [S_found_s, hlen]
          first
            | (have f1 := h56; refine qM.scrref hM hk1 k_lt5b ?_; rw [if_pos (Or.inl f1)]; done)
            | (have f1 := h63; refine qM.scrref hM hk1 k_lt5b ?_; rw [if_pos (Or.inr f1)]; done)
    · refine pv_goto (pc := 50) (tgt := 92) dX12_least_50 (by decide) ?_
      refine pv_iinc_6 (pc := 92) (v := _ + 1) dX12_least_92 rfl (by decide) rfl ?_
      refine pv_goto (pc := 95) (tgt := 29) dX12_least_95 (by decide) ?_
      rw [w_lst, o_none h47] at hr
      rw [i_inc]
      exact ih (n + 1) _ _ hk1 ha hb (by omega) hr

set_option maxRecDepth 100000 in
set_option maxHeartbeats 4000000 in
theorem c_X12_least {G : pv_G} {d : Nat} {J : pv_I} {K : pv_L} {a b : Int64} {i : Int32} {t : pv_T} {I : pv_I} {L : pv_L} {Rf : pv_R} (hT : sh_ok t) (hR : rf_ok Rf) (hW : WF J K) (hM : RM J K I L) (hd16 : 16 ≤ d) : pv_Mt G mX12_least d 0 0 [.ref 61, .long a, .long b, .int i] t I L Rf (qM (S_least J K a b i) t I L Rf) := by
  refine pv_mt mgX12_least.2.2.2.2.2 [.ref 61, .long a, .retAddr 0, .long b, .retAddr 0, .int i, .retAddr 0] rfl (Nat.le_of_ble_eq_true rfl) ?_
  have hd : 6 ≤ d := by omega
  obtain ⟨⟨m0, m1, m2, m3, m4, m5, m6, m7, m8⟩, mf, mst, mh, mr, mt, mc, mi⟩ := id hM
  refine pv_aload_0 (pc := 0) dX12_least_0 ?_
  refine pv_lload_1 (pc := 1) dX12_least_1 ?_
  refine pv_lload_3 (pc := 2) dX12_least_2 ?_
  refine pv_callV1 (pc := 3) dX12_least_3 mgX12_isNumber lv_X12_143_12 (by decide) (sx_61 hT) (by omega) (c_X12_isNumber hT (by omega)) rfl rfl (by decide) ?_
  refine pv_if_ne (pc := 6) (tgt := 16) dX12_least_6 (by decide) (fun h6 => ?_) (fun h6 => ?_)
  · refine pv_aload_0 (pc := 16) dX12_least_16 ?_
    refine pv_lload_1 (pc := 17) dX12_least_17 ?_
    refine pv_putL (pc := 18) dX12_least_18 fl_X12_280_12 (fun q => by cases q) (by decide) (sx_61 hT) ?_
    refine pv_aload_0 (pc := 21) dX12_least_21 ?_
    refine pv_lload_3 (pc := 22) dX12_least_22 ?_
    refine pv_putL (pc := 23) dX12_least_23 fl_X12_283_12 (fun q => by cases q) (by decide) (sx_61 hT) ?_
    refine pv_iconst (pc := 26) (v := 0) dX12_least_26 (by decide) ?_
    refine pv_istore_6 (pc := 27) dX12_least_27 (by decide) rfl ?_
    exact l_least hT hR hM hd16 10 0 _ _ ((kS.rf.uL 61 45 _ (by decide)).uL 61 46 _ (by decide)) rfl rfl rfl (by unfold S_least; rw [if_pos ((pv_b_n0 _).mp h6)])
  · refine pv_aload_0 (pc := 9) dX12_least_9 ?_
    refine pv_bipush (pc := 10) (v := (-6)) dX12_least_10 (by decide) ?_
    refine pv_callV1 (pc := 12) dX12_least_12 mgX12_noTen lv_X12_292_12 (by decide) (sx_61 hT) (by omega) (c_X12_noTen (k := 6) hT hR (by decide) (by unfold vp_in; decide)) rfl rfl (by decide) ?_
    refine pv_iret (pc := 15) dX12_least_15 rfl rfl ?_
    refine qM.ref hM k_l6 ?_; unfold S_least; rw [if_neg (by rw [(pv_b_0 _).mp h6]; decide)]

