/-! whether one number is less than another -/
def n_ok (a b : Int64) : Prop := 0 ≤ b.toInt ∧ b.toInt ≤ 1000000000000 ∧ -1000000000000 ≤ a.toInt ∧ a.toInt ≤ 1000000000000 ∧ (b.toInt = 0 → 0 < a.toInt)
def s_lt (a b c d : Int64) : Bool := decide (a.toInt * d.toInt < c.toInt * b.toInt)
/-- the answer in a turned state -/
def s_ltT (T : Bool) (a b c d : Int64) : Bool := if T then s_lt c d a b else s_lt a b c d
def n_r (a b : Int64) : Int64 := a - s_floor a b * b
theorem n_f {a b : Int64} (h : n_ok a b) (hb : ¬ b = 0) : 0 < b.toInt ∧ (s_floor a b).toInt = a.toInt / b.toInt ∧ (n_r a b).toInt = a.toInt - a.toInt / b.toInt * b.toInt ∧ 0 ≤ (n_r a b).toInt ∧ (n_r a b).toInt < b.toInt := by
  obtain ⟨h1, h2, h3, h4, h6⟩ := h
  have h5 := l64_n0.mp hb
  have hp : 0 < b.toInt := by omega
  have e1 := s_floor_to (a := a) hp (by omega)
  have q := i_divs (a := a.toInt) hp
  have e2 : (s_floor a b * b).toInt = a.toInt / b.toInt * b.toInt := by rw [l64_mul (by rw [e1]; omega) (by rw [e1]; omega), e1]
  have e3 : (n_r a b).toInt = a.toInt - a.toInt / b.toInt * b.toInt := by unfold n_r; rw [l64_sub (by rw [e2]; omega) (by rw [e2]; omega), e2]
  exact ⟨hp, e1, e3, by omega, by omega⟩
theorem n_nx {a b : Int64} (h : n_ok a b) (hb : ¬ b = 0) : n_ok b (n_r a b) := by
  obtain ⟨e0, e1, e2, e3, e4⟩ := n_f h hb
  obtain ⟨h1, h2, h3, h4, h6⟩ := h
  exact ⟨e3, by omega, by omega, h2, fun _ => e0⟩
/-- at the end -/
theorem lt_end {a b c d : Int64} (h : n_ok a b) (g : n_ok c d) (h0 : b = 0 ∨ d = 0) : s_lt a b c d = decide (d = 0 ∧ ¬ b = 0) := by
  obtain ⟨h1, h2, h3, h4, h5⟩ := h
  obtain ⟨g1, g2, g3, g4, g5⟩ := g
  unfold s_lt
  rw [decide_eq_decide]
  simp only [← Int64.toInt_inj, l64_0] at h0 ⊢
  by_cases eb : b.toInt = 0
  · have a0 := h5 eb
    rw [eb, Int.mul_zero]
    constructor
    · intro q
      exfalso
      have : 0 ≤ a.toInt * d.toInt := Int.mul_nonneg (by omega) g1
      omega
    · intro q; omega
  · have ed : d.toInt = 0 := by omega
    have c0 := g5 ed
    rw [ed, Int.mul_zero]
    have : 0 < c.toInt * b.toInt := Int.mul_pos c0 (by omega)
    constructor
    · intro _; exact ⟨rfl, eb⟩
    · intro _; exact this
theorem lt_ne {a b c d : Int64} (h : n_ok a b) (g : n_ok c d) (hb : ¬ b = 0) (hd : ¬ d = 0) (hk : ¬ s_floor a b = s_floor c d) : s_lt a b c d = decide (s_floor a b < s_floor c d) := by
  obtain ⟨e0, e1, e2, e3, e4⟩ := n_f h hb
  obtain ⟨f0, f1, f2, f3, f4⟩ := n_f g hd
  unfold s_lt
  rw [decide_eq_decide, l64_lt, e1, f1]
  rw [← Int64.toInt_inj, e1, f1] at hk
  have q1 := i_divs (a := a.toInt) e0
  have q2 := i_divs (a := c.toInt) f0
  generalize a.toInt / b.toInt = k at *
  generalize c.toInt / d.toInt = l at *
  have m1 : 0 < b.toInt * d.toInt := Int.mul_pos e0 f0
  have m2 : k * b.toInt * d.toInt ≤ a.toInt * d.toInt := Int.mul_le_mul_of_nonneg_right q1.1 (by omega)
  have m3 : a.toInt * d.toInt < (k * b.toInt + b.toInt) * d.toInt := Int.mul_lt_mul_of_pos_right q1.2 f0
  have m4 : l * d.toInt * b.toInt ≤ c.toInt * b.toInt := Int.mul_le_mul_of_nonneg_right q2.1 (by omega)
  have m5 : c.toInt * b.toInt < (l * d.toInt + d.toInt) * b.toInt := Int.mul_lt_mul_of_pos_right q2.2 e0
  have n1 : k * b.toInt * d.toInt = k * (b.toInt * d.toInt) := Int.mul_assoc ..
  have n2 : l * d.toInt * b.toInt = l * (b.toInt * d.toInt) := by rw [Int.mul_assoc, Int.mul_comm d.toInt]
  have n3 : (k * b.toInt + b.toInt) * d.toInt = k * (b.toInt * d.toInt) + b.toInt * d.toInt := by rw [Int.add_mul, Int.mul_assoc]
  have n4 : (l * d.toInt + d.toInt) * b.toInt = l * (b.toInt * d.toInt) + b.toInt * d.toInt := by rw [Int.add_mul, Int.mul_assoc, Int.mul_comm d.toInt]
  generalize b.toInt * d.toInt = M at *
  constructor
  · intro q
    by_cases r : k < l
    · exact r
    · exfalso
      have : (l + 1) * M ≤ k * M := Int.mul_le_mul_of_nonneg_right (by omega) (by omega)
      rw [Int.add_mul, Int.one_mul] at this
      omega
  · intro r
    have : (k + 1) * M ≤ l * M := Int.mul_le_mul_of_nonneg_right (by omega) (by omega)
    rw [Int.add_mul, Int.one_mul] at this
    omega
theorem lt_eq {a b c d : Int64} (h : n_ok a b) (g : n_ok c d) (hb : ¬ b = 0) (hd : ¬ d = 0) (hk : s_floor a b = s_floor c d) : s_lt a b c d = s_lt d (n_r c d) b (n_r a b) := by
  obtain ⟨e0, e1, e2, e3, e4⟩ := n_f h hb
  obtain ⟨f0, f1, f2, f3, f4⟩ := n_f g hd
  unfold s_lt
  rw [← Int64.toInt_inj, e1, f1] at hk
  rw [decide_eq_decide, e2, f2, ← hk]
  generalize a.toInt / b.toInt = k at *
  rw [Int.mul_sub, Int.mul_sub, Int.mul_comm d.toInt a.toInt, Int.mul_comm b.toInt c.toInt]
  have n1 : d.toInt * (k * b.toInt) = k * (b.toInt * d.toInt) := by rw [Int.mul_left_comm, Int.mul_comm d.toInt]
  have n2 : b.toInt * (k * d.toInt) = k * (b.toInt * d.toInt) := by rw [Int.mul_left_comm]
  rw [n1, n2]
  omega

theorem pv_bT (T : Bool) : (1 : Int32) * 1 = 1 := by decide
theorem n_t (T : Bool) : (¬ pv_b T = 0) ↔ T = true := pv_b_n0 T
set_option maxRecDepth 100000 in
set_option maxHeartbeats 4000000 in
theorem l_less {G : pv_G} {dd : Nat} {a b c d1 : Int64} {r : Bool} {t : pv_T} {I : pv_I} {L : pv_L} {Rf : pv_R} (hT : sh_ok t) (hd : 1 ≤ dd) : ∀ (m : Nat) (x y u v : Int64) (T : Bool) (l18 l19 l20 l21 l22 l23 l24 l25 : Value), n_ok x y → n_ok u v → y.toInt.toNat < m → s_ltT T x y u v = r →
    pv_V G mX12_isLess dd 0 0 (pv_is (some (.int (pv_b r))) t I L Rf) 0 0 17 [.ref 61, .long a, .retAddr 0, .long b, .retAddr 0, .long c, .retAddr 0, .long d1, .retAddr 0, .long x, .retAddr 0, .long y, .retAddr 0, .long u, .retAddr 0, .long v, .retAddr 0, .int (pv_b T), l18, l19, l20, l21, l22, l23, l24, l25] [] t I L Rf := by
  intro m
  induction m with
  | zero => intro x y u v T l18 l19 l20 l21 l22 l23 l24 l25 hx hu hm; exact absurd hm (Nat.not_lt_zero _)
  | succ m ih =>
    intro x y u v T l18 l19 l20 l21 l22 l23 l24 l25 hx hu hm hr
    refine pv_lload_11 (pc := 17) dX12_isLess_17 ?_
    refine pv_lconst (pc := 19) (v := 0) dX12_isLess_19 (by decide) ?_
    refine pv_lcmp_eq (pc := 20) (tgt := 31) dX12_isLess_20 dX12_isLess_21 (by decide) (fun h20 => ?_) (fun h20 => ?_)
    · refine pv_lload_15 (pc := 31) dX12_isLess_31 ?_
      refine pv_lconst (pc := 33) (v := 0) dX12_isLess_33 (by decide) ?_
      refine pv_lcmp_ne (pc := 34) (tgt := 49) dX12_isLess_34 dX12_isLess_35 (by decide) (fun h34 => ?_) (fun h34 => ?_)
      · refine pv_iconst (pc := 49) (v := 0) dX12_isLess_49 (by decide) ?_
        refine pv_istore_18 (pc := 50) dX12_isLess_50 (by decide) rfl ?_
        refine pv_lload_11 (pc := 52) dX12_isLess_52 ?_
        refine pv_lconst (pc := 54) (v := 0) dX12_isLess_54 (by decide) ?_
        refine pv_lcmp_ne (pc := 55) (tgt := 70) dX12_isLess_55 dX12_isLess_56 (by decide) (fun h55 => ?_) (fun h55 => ?_)
        · refine pv_iconst (pc := 70) (v := 0) dX12_isLess_70 (by decide) ?_
          refine pv_istore_19 (pc := 71) dX12_isLess_71 (by decide) rfl ?_
          refine pv_iload_17 (pc := 73) dX12_isLess_73 ?_
          refine pv_if_eq (pc := 75) (tgt := 83) dX12_isLess_75 (by decide) (fun h75 => ?_) (fun h75 => ?_)
          · refine pv_iload_18 (pc := 83) dX12_isLess_83 ?_
            refine pv_iret (pc := 85) dX12_isLess_85 rfl rfl ?_
            have hz : y = 0 ∨ v = 0 := (by first | exact Or.inl h20 | exact Or.inr (Classical.not_not.mp h27) | exact Or.inr h27)
            refine ⟨congrArg (fun z => some (Value.int z)) ?_, rfl, rfl, rfl, rfl⟩
            rw [← hr]
            have hE := lt_end hx hu hz
            have hE2 := lt_end hu hx (Or.symm hz)
            cases T
            · show _ = pv_b (s_lt x y u v)
              rw [hE]
              first
                | (exfalso; exact absurd (show (0 : Int32) = 1 from by assumption) (by decide))
                | (simp_all [pv_b]; done)
            · show _ = pv_b (s_lt u v x y)
              rw [hE2]
              first
                | (exfalso; exact absurd (show (0 : Int32) = 1 from by assumption) (by decide))
                | (simp_all [pv_b]; done)
          · refine pv_iload_19 (pc := 78) dX12_isLess_78 ?_
            refine pv_goto (pc := 80) (tgt := 85) dX12_isLess_80 (by decide) ?_
            refine pv_iret (pc := 85) dX12_isLess_85 rfl rfl ?_
            have hz : y = 0 ∨ v = 0 := (by first | exact Or.inl h20 | exact Or.inr (Classical.not_not.mp h27) | exact Or.inr h27)
            refine ⟨congrArg (fun z => some (Value.int z)) ?_, rfl, rfl, rfl, rfl⟩
            rw [← hr]
            have hE := lt_end hx hu hz
            have hE2 := lt_end hu hx (Or.symm hz)
            cases T
            · show _ = pv_b (s_lt x y u v)
              rw [hE]
              first
                | (exfalso; exact absurd (show (0 : Int32) = 1 from by assumption) (by decide))
                | (simp_all [pv_b]; done)
            · show _ = pv_b (s_lt u v x y)
              rw [hE2]
              first
                | (exfalso; exact absurd (show (0 : Int32) = 1 from by assumption) (by decide))
                | (simp_all [pv_b]; done)
        · refine pv_lload_15 (pc := 59) dX12_isLess_59 ?_
          refine pv_lconst (pc := 61) (v := 0) dX12_isLess_61 (by decide) ?_
          refine pv_lcmp_eq (pc := 62) (tgt := 70) dX12_isLess_62 dX12_isLess_63 (by decide) (fun h62 => ?_) (fun h62 => ?_)
          · refine pv_iconst (pc := 70) (v := 0) dX12_isLess_70 (by decide) ?_
            refine pv_istore_19 (pc := 71) dX12_isLess_71 (by decide) rfl ?_
            refine pv_iload_17 (pc := 73) dX12_isLess_73 ?_
            refine pv_if_eq (pc := 75) (tgt := 83) dX12_isLess_75 (by decide) (fun h75 => ?_) (fun h75 => ?_)
            · refine pv_iload_18 (pc := 83) dX12_isLess_83 ?_
              refine pv_iret (pc := 85) dX12_isLess_85 rfl rfl ?_
              have hz : y = 0 ∨ v = 0 := (by first | exact Or.inl h20 | exact Or.inr (Classical.not_not.mp h27) | exact Or.inr h27)
              refine ⟨congrArg (fun z => some (Value.int z)) ?_, rfl, rfl, rfl, rfl⟩
              rw [← hr]
              have hE := lt_end hx hu hz
              have hE2 := lt_end hu hx (Or.symm hz)
              cases T
              · show _ = pv_b (s_lt x y u v)
                rw [hE]
                first
                  | (exfalso; exact absurd (show (0 : Int32) = 1 from by assumption) (by decide))
                  | (simp_all [pv_b]; done)
              · show _ = pv_b (s_lt u v x y)
                rw [hE2]
                first
                  | (exfalso; exact absurd (show (0 : Int32) = 1 from by assumption) (by decide))
                  | (simp_all [pv_b]; done)
            · refine pv_iload_19 (pc := 78) dX12_isLess_78 ?_
              refine pv_goto (pc := 80) (tgt := 85) dX12_isLess_80 (by decide) ?_
              refine pv_iret (pc := 85) dX12_isLess_85 rfl rfl ?_
              have hz : y = 0 ∨ v = 0 := (by first | exact Or.inl h20 | exact Or.inr (Classical.not_not.mp h27) | exact Or.inr h27)
              refine ⟨congrArg (fun z => some (Value.int z)) ?_, rfl, rfl, rfl, rfl⟩
              rw [← hr]
              have hE := lt_end hx hu hz
              have hE2 := lt_end hu hx (Or.symm hz)
              cases T
              · show _ = pv_b (s_lt x y u v)
                rw [hE]
                first
                  | (exfalso; exact absurd (show (0 : Int32) = 1 from by assumption) (by decide))
                  | (simp_all [pv_b]; done)
              · show _ = pv_b (s_lt u v x y)
                rw [hE2]
                first
                  | (exfalso; exact absurd (show (0 : Int32) = 1 from by assumption) (by decide))
                  | (simp_all [pv_b]; done)
          · refine pv_iconst (pc := 66) (v := 1) dX12_isLess_66 (by decide) ?_
            refine pv_goto (pc := 67) (tgt := 71) dX12_isLess_67 (by decide) ?_
            refine pv_istore_19 (pc := 71) dX12_isLess_71 (by decide) rfl ?_
            refine pv_iload_17 (pc := 73) dX12_isLess_73 ?_
            refine pv_if_eq (pc := 75) (tgt := 83) dX12_isLess_75 (by decide) (fun h75 => ?_) (fun h75 => ?_)
            · refine pv_iload_18 (pc := 83) dX12_isLess_83 ?_
              refine pv_iret (pc := 85) dX12_isLess_85 rfl rfl ?_
              have hz : y = 0 ∨ v = 0 := (by first | exact Or.inl h20 | exact Or.inr (Classical.not_not.mp h27) | exact Or.inr h27)
              refine ⟨congrArg (fun z => some (Value.int z)) ?_, rfl, rfl, rfl, rfl⟩
              rw [← hr]
              have hE := lt_end hx hu hz
              have hE2 := lt_end hu hx (Or.symm hz)
              cases T
              · show _ = pv_b (s_lt x y u v)
                rw [hE]
                first
                  | (exfalso; exact absurd (show (0 : Int32) = 1 from by assumption) (by decide))
                  | (simp_all [pv_b]; done)
              · show _ = pv_b (s_lt u v x y)
                rw [hE2]
                first
                  | (exfalso; exact absurd (show (0 : Int32) = 1 from by assumption) (by decide))
                  | (simp_all [pv_b]; done)
            · refine pv_iload_19 (pc := 78) dX12_isLess_78 ?_
              refine pv_goto (pc := 80) (tgt := 85) dX12_isLess_80 (by decide) ?_
              refine pv_iret (pc := 85) dX12_isLess_85 rfl rfl ?_
              have hz : y = 0 ∨ v = 0 := (by first | exact Or.inl h20 | exact Or.inr (Classical.not_not.mp h27) | exact Or.inr h27)
              refine ⟨congrArg (fun z => some (Value.int z)) ?_, rfl, rfl, rfl, rfl⟩
              rw [← hr]
              have hE := lt_end hx hu hz
              have hE2 := lt_end hu hx (Or.symm hz)
              cases T
              · show _ = pv_b (s_lt x y u v)
                rw [hE]
                first
                  | (exfalso; exact absurd (show (0 : Int32) = 1 from by assumption) (by decide))
                  | (simp_all [pv_b]; done)
              · show _ = pv_b (s_lt u v x y)
                rw [hE2]
                first
                  | (exfalso; exact absurd (show (0 : Int32) = 1 from by assumption) (by decide))
                  | (simp_all [pv_b]; done)
      · refine pv_lload_11 (pc := 38) dX12_isLess_38 ?_
        refine pv_lconst (pc := 40) (v := 0) dX12_isLess_40 (by decide) ?_
        refine pv_lcmp_eq (pc := 41) (tgt := 49) dX12_isLess_41 dX12_isLess_42 (by decide) (fun h41 => ?_) (fun h41 => ?_)
        · refine pv_iconst (pc := 49) (v := 0) dX12_isLess_49 (by decide) ?_
          refine pv_istore_18 (pc := 50) dX12_isLess_50 (by decide) rfl ?_
          refine pv_lload_11 (pc := 52) dX12_isLess_52 ?_
          refine pv_lconst (pc := 54) (v := 0) dX12_isLess_54 (by decide) ?_
          refine pv_lcmp_ne (pc := 55) (tgt := 70) dX12_isLess_55 dX12_isLess_56 (by decide) (fun h55 => ?_) (fun h55 => ?_)
          · refine pv_iconst (pc := 70) (v := 0) dX12_isLess_70 (by decide) ?_
            refine pv_istore_19 (pc := 71) dX12_isLess_71 (by decide) rfl ?_
            refine pv_iload_17 (pc := 73) dX12_isLess_73 ?_
            refine pv_if_eq (pc := 75) (tgt := 83) dX12_isLess_75 (by decide) (fun h75 => ?_) (fun h75 => ?_)
            · refine pv_iload_18 (pc := 83) dX12_isLess_83 ?_
              refine pv_iret (pc := 85) dX12_isLess_85 rfl rfl ?_
              have hz : y = 0 ∨ v = 0 := (by first | exact Or.inl h20 | exact Or.inr (Classical.not_not.mp h27) | exact Or.inr h27)
              refine ⟨congrArg (fun z => some (Value.int z)) ?_, rfl, rfl, rfl, rfl⟩
              rw [← hr]
              have hE := lt_end hx hu hz
              have hE2 := lt_end hu hx (Or.symm hz)
              cases T
              · show _ = pv_b (s_lt x y u v)
                rw [hE]
                first
                  | (exfalso; exact absurd (show (0 : Int32) = 1 from by assumption) (by decide))
                  | (simp_all [pv_b]; done)
              · show _ = pv_b (s_lt u v x y)
                rw [hE2]
                first
                  | (exfalso; exact absurd (show (0 : Int32) = 1 from by assumption) (by decide))
                  | (simp_all [pv_b]; done)
            · refine pv_iload_19 (pc := 78) dX12_isLess_78 ?_
              refine pv_goto (pc := 80) (tgt := 85) dX12_isLess_80 (by decide) ?_
              refine pv_iret (pc := 85) dX12_isLess_85 rfl rfl ?_
              have hz : y = 0 ∨ v = 0 := (by first | exact Or.inl h20 | exact Or.inr (Classical.not_not.mp h27) | exact Or.inr h27)
              refine ⟨congrArg (fun z => some (Value.int z)) ?_, rfl, rfl, rfl, rfl⟩
              rw [← hr]
              have hE := lt_end hx hu hz
              have hE2 := lt_end hu hx (Or.symm hz)
              cases T
              · show _ = pv_b (s_lt x y u v)
                rw [hE]
                first
                  | (exfalso; exact absurd (show (0 : Int32) = 1 from by assumption) (by decide))
                  | (simp_all [pv_b]; done)
              · show _ = pv_b (s_lt u v x y)
                rw [hE2]
                first
                  | (exfalso; exact absurd (show (0 : Int32) = 1 from by assumption) (by decide))
                  | (simp_all [pv_b]; done)
          · refine pv_lload_15 (pc := 59) dX12_isLess_59 ?_
            refine pv_lconst (pc := 61) (v := 0) dX12_isLess_61 (by decide) ?_
            refine pv_lcmp_eq (pc := 62) (tgt := 70) dX12_isLess_62 dX12_isLess_63 (by decide) (fun h62 => ?_) (fun h62 => ?_)
            · refine pv_iconst (pc := 70) (v := 0) dX12_isLess_70 (by decide) ?_
              refine pv_istore_19 (pc := 71) dX12_isLess_71 (by decide) rfl ?_
              refine pv_iload_17 (pc := 73) dX12_isLess_73 ?_
              refine pv_if_eq (pc := 75) (tgt := 83) dX12_isLess_75 (by decide) (fun h75 => ?_) (fun h75 => ?_)
              · refine pv_iload_18 (pc := 83) dX12_isLess_83 ?_
                refine pv_iret (pc := 85) dX12_isLess_85 rfl rfl ?_
                have hz : y = 0 ∨ v = 0 := (by first | exact Or.inl h20 | exact Or.inr (Classical.not_not.mp h27) | exact Or.inr h27)
                refine ⟨congrArg (fun z => some (Value.int z)) ?_, rfl, rfl, rfl, rfl⟩
                rw [← hr]
                have hE := lt_end hx hu hz
                have hE2 := lt_end hu hx (Or.symm hz)
                cases T
                · show _ = pv_b (s_lt x y u v)
                  rw [hE]
                  first
                    | (exfalso; exact absurd (show (0 : Int32) = 1 from by assumption) (by decide))
                    | (simp_all [pv_b]; done)
                · show _ = pv_b (s_lt u v x y)
                  rw [hE2]
                  first
                    | (exfalso; exact absurd (show (0 : Int32) = 1 from by assumption) (by decide))
                    | (simp_all [pv_b]; done)
              · refine pv_iload_19 (pc := 78) dX12_isLess_78 ?_
                refine pv_goto (pc := 80) (tgt := 85) dX12_isLess_80 (by decide) ?_
                refine pv_iret (pc := 85) dX12_isLess_85 rfl rfl ?_
                have hz : y = 0 ∨ v = 0 := (by first | exact Or.inl h20 | exact Or.inr (Classical.not_not.mp h27) | exact Or.inr h27)
                refine ⟨congrArg (fun z => some (Value.int z)) ?_, rfl, rfl, rfl, rfl⟩
                rw [← hr]
                have hE := lt_end hx hu hz
                have hE2 := lt_end hu hx (Or.symm hz)
                cases T
                · show _ = pv_b (s_lt x y u v)
                  rw [hE]
                  first
                    | (exfalso; exact absurd (show (0 : Int32) = 1 from by assumption) (by decide))
                    | (simp_all [pv_b]; done)
                · show _ = pv_b (s_lt u v x y)
                  rw [hE2]
                  first
                    | (exfalso; exact absurd (show (0 : Int32) = 1 from by assumption) (by decide))
                    | (simp_all [pv_b]; done)
            · refine pv_iconst (pc := 66) (v := 1) dX12_isLess_66 (by decide) ?_
              refine pv_goto (pc := 67) (tgt := 71) dX12_isLess_67 (by decide) ?_
              refine pv_istore_19 (pc := 71) dX12_isLess_71 (by decide) rfl ?_
              refine pv_iload_17 (pc := 73) dX12_isLess_73 ?_
              refine pv_if_eq (pc := 75) (tgt := 83) dX12_isLess_75 (by decide) (fun h75 => ?_) (fun h75 => ?_)
              · refine pv_iload_18 (pc := 83) dX12_isLess_83 ?_
                refine pv_iret (pc := 85) dX12_isLess_85 rfl rfl ?_
                have hz : y = 0 ∨ v = 0 := (by first | exact Or.inl h20 | exact Or.inr (Classical.not_not.mp h27) | exact Or.inr h27)
                refine ⟨congrArg (fun z => some (Value.int z)) ?_, rfl, rfl, rfl, rfl⟩
                rw [← hr]
                have hE := lt_end hx hu hz
                have hE2 := lt_end hu hx (Or.symm hz)
                cases T
                · show _ = pv_b (s_lt x y u v)
                  rw [hE]
                  first
                    | (exfalso; exact absurd (show (0 : Int32) = 1 from by assumption) (by decide))
                    | (simp_all [pv_b]; done)
                · show _ = pv_b (s_lt u v x y)
                  rw [hE2]
                  first
                    | (exfalso; exact absurd (show (0 : Int32) = 1 from by assumption) (by decide))
                    | (simp_all [pv_b]; done)
              · refine pv_iload_19 (pc := 78) dX12_isLess_78 ?_
                refine pv_goto (pc := 80) (tgt := 85) dX12_isLess_80 (by decide) ?_
                refine pv_iret (pc := 85) dX12_isLess_85 rfl rfl ?_
                have hz : y = 0 ∨ v = 0 := (by first | exact Or.inl h20 | exact Or.inr (Classical.not_not.mp h27) | exact Or.inr h27)
                refine ⟨congrArg (fun z => some (Value.int z)) ?_, rfl, rfl, rfl, rfl⟩
                rw [← hr]
                have hE := lt_end hx hu hz
                have hE2 := lt_end hu hx (Or.symm hz)
                cases T
                · show _ = pv_b (s_lt x y u v)
                  rw [hE]
                  first
                    | (exfalso; exact absurd (show (0 : Int32) = 1 from by assumption) (by decide))
                    | (simp_all [pv_b]; done)
                · show _ = pv_b (s_lt u v x y)
                  rw [hE2]
                  first
                    | (exfalso; exact absurd (show (0 : Int32) = 1 from by assumption) (by decide))
                    | (simp_all [pv_b]; done)
        · refine pv_iconst (pc := 45) (v := 1) dX12_isLess_45 (by decide) ?_
          refine pv_goto (pc := 46) (tgt := 50) dX12_isLess_46 (by decide) ?_
          refine pv_istore_18 (pc := 50) dX12_isLess_50 (by decide) rfl ?_
          refine pv_lload_11 (pc := 52) dX12_isLess_52 ?_
          refine pv_lconst (pc := 54) (v := 0) dX12_isLess_54 (by decide) ?_
          refine pv_lcmp_ne (pc := 55) (tgt := 70) dX12_isLess_55 dX12_isLess_56 (by decide) (fun h55 => ?_) (fun h55 => ?_)
          · refine pv_iconst (pc := 70) (v := 0) dX12_isLess_70 (by decide) ?_
            refine pv_istore_19 (pc := 71) dX12_isLess_71 (by decide) rfl ?_
            refine pv_iload_17 (pc := 73) dX12_isLess_73 ?_
            refine pv_if_eq (pc := 75) (tgt := 83) dX12_isLess_75 (by decide) (fun h75 => ?_) (fun h75 => ?_)
            · refine pv_iload_18 (pc := 83) dX12_isLess_83 ?_
              refine pv_iret (pc := 85) dX12_isLess_85 rfl rfl ?_
              have hz : y = 0 ∨ v = 0 := (by first | exact Or.inl h20 | exact Or.inr (Classical.not_not.mp h27) | exact Or.inr h27)
              refine ⟨congrArg (fun z => some (Value.int z)) ?_, rfl, rfl, rfl, rfl⟩
              rw [← hr]
              have hE := lt_end hx hu hz
              have hE2 := lt_end hu hx (Or.symm hz)
              cases T
              · show _ = pv_b (s_lt x y u v)
                rw [hE]
                first
                  | (exfalso; exact absurd (show (0 : Int32) = 1 from by assumption) (by decide))
                  | (simp_all [pv_b]; done)
              · show _ = pv_b (s_lt u v x y)
                rw [hE2]
                first
                  | (exfalso; exact absurd (show (0 : Int32) = 1 from by assumption) (by decide))
                  | (simp_all [pv_b]; done)
            · refine pv_iload_19 (pc := 78) dX12_isLess_78 ?_
              refine pv_goto (pc := 80) (tgt := 85) dX12_isLess_80 (by decide) ?_
              refine pv_iret (pc := 85) dX12_isLess_85 rfl rfl ?_
              have hz : y = 0 ∨ v = 0 := (by first | exact Or.inl h20 | exact Or.inr (Classical.not_not.mp h27) | exact Or.inr h27)
              refine ⟨congrArg (fun z => some (Value.int z)) ?_, rfl, rfl, rfl, rfl⟩
              rw [← hr]
              have hE := lt_end hx hu hz
              have hE2 := lt_end hu hx (Or.symm hz)
              cases T
              · show _ = pv_b (s_lt x y u v)
                rw [hE]
                first
                  | (exfalso; exact absurd (show (0 : Int32) = 1 from by assumption) (by decide))
                  | (simp_all [pv_b]; done)
              · show _ = pv_b (s_lt u v x y)
                rw [hE2]
                first
                  | (exfalso; exact absurd (show (0 : Int32) = 1 from by assumption) (by decide))
                  | (simp_all [pv_b]; done)
          · refine pv_lload_15 (pc := 59) dX12_isLess_59 ?_
            refine pv_lconst (pc := 61) (v := 0) dX12_isLess_61 (by decide) ?_
            refine pv_lcmp_eq (pc := 62) (tgt := 70) dX12_isLess_62 dX12_isLess_63 (by decide) (fun h62 => ?_) (fun h62 => ?_)
            · refine pv_iconst (pc := 70) (v := 0) dX12_isLess_70 (by decide) ?_
              refine pv_istore_19 (pc := 71) dX12_isLess_71 (by decide) rfl ?_
              refine pv_iload_17 (pc := 73) dX12_isLess_73 ?_
              refine pv_if_eq (pc := 75) (tgt := 83) dX12_isLess_75 (by decide) (fun h75 => ?_) (fun h75 => ?_)
              · refine pv_iload_18 (pc := 83) dX12_isLess_83 ?_
                refine pv_iret (pc := 85) dX12_isLess_85 rfl rfl ?_
                have hz : y = 0 ∨ v = 0 := (by first | exact Or.inl h20 | exact Or.inr (Classical.not_not.mp h27) | exact Or.inr h27)
                refine ⟨congrArg (fun z => some (Value.int z)) ?_, rfl, rfl, rfl, rfl⟩
                rw [← hr]
                have hE := lt_end hx hu hz
                have hE2 := lt_end hu hx (Or.symm hz)
                cases T
                · show _ = pv_b (s_lt x y u v)
                  rw [hE]
                  first
                    | (exfalso; exact absurd (show (0 : Int32) = 1 from by assumption) (by decide))
                    | (simp_all [pv_b]; done)
                · show _ = pv_b (s_lt u v x y)
                  rw [hE2]
                  first
                    | (exfalso; exact absurd (show (0 : Int32) = 1 from by assumption) (by decide))
                    | (simp_all [pv_b]; done)
              · refine pv_iload_19 (pc := 78) dX12_isLess_78 ?_
                refine pv_goto (pc := 80) (tgt := 85) dX12_isLess_80 (by decide) ?_
                refine pv_iret (pc := 85) dX12_isLess_85 rfl rfl ?_
                have hz : y = 0 ∨ v = 0 := (by first | exact Or.inl h20 | exact Or.inr (Classical.not_not.mp h27) | exact Or.inr h27)
                refine ⟨congrArg (fun z => some (Value.int z)) ?_, rfl, rfl, rfl, rfl⟩
                rw [← hr]
                have hE := lt_end hx hu hz
                have hE2 := lt_end hu hx (Or.symm hz)
                cases T
                · show _ = pv_b (s_lt x y u v)
                  rw [hE]
                  first
                    | (exfalso; exact absurd (show (0 : Int32) = 1 from by assumption) (by decide))
                    | (simp_all [pv_b]; done)
                · show _ = pv_b (s_lt u v x y)
                  rw [hE2]
                  first
                    | (exfalso; exact absurd (show (0 : Int32) = 1 from by assumption) (by decide))
                    | (simp_all [pv_b]; done)
            · refine pv_iconst (pc := 66) (v := 1) dX12_isLess_66 (by decide) ?_
              refine pv_goto (pc := 67) (tgt := 71) dX12_isLess_67 (by decide) ?_
              refine pv_istore_19 (pc := 71) dX12_isLess_71 (by decide) rfl ?_
              refine pv_iload_17 (pc := 73) dX12_isLess_73 ?_
              refine pv_if_eq (pc := 75) (tgt := 83) dX12_isLess_75 (by decide) (fun h75 => ?_) (fun h75 => ?_)
              · refine pv_iload_18 (pc := 83) dX12_isLess_83 ?_
                refine pv_iret (pc := 85) dX12_isLess_85 rfl rfl ?_
                have hz : y = 0 ∨ v = 0 := (by first | exact Or.inl h20 | exact Or.inr (Classical.not_not.mp h27) | exact Or.inr h27)
                refine ⟨congrArg (fun z => some (Value.int z)) ?_, rfl, rfl, rfl, rfl⟩
                rw [← hr]
                have hE := lt_end hx hu hz
                have hE2 := lt_end hu hx (Or.symm hz)
                cases T
                · show _ = pv_b (s_lt x y u v)
                  rw [hE]
                  first
                    | (exfalso; exact absurd (show (0 : Int32) = 1 from by assumption) (by decide))
                    | (simp_all [pv_b]; done)
                · show _ = pv_b (s_lt u v x y)
                  rw [hE2]
                  first
                    | (exfalso; exact absurd (show (0 : Int32) = 1 from by assumption) (by decide))
                    | (simp_all [pv_b]; done)
              · refine pv_iload_19 (pc := 78) dX12_isLess_78 ?_
                refine pv_goto (pc := 80) (tgt := 85) dX12_isLess_80 (by decide) ?_
                refine pv_iret (pc := 85) dX12_isLess_85 rfl rfl ?_
                have hz : y = 0 ∨ v = 0 := (by first | exact Or.inl h20 | exact Or.inr (Classical.not_not.mp h27) | exact Or.inr h27)
                refine ⟨congrArg (fun z => some (Value.int z)) ?_, rfl, rfl, rfl, rfl⟩
                rw [← hr]
                have hE := lt_end hx hu hz
                have hE2 := lt_end hu hx (Or.symm hz)
                cases T
                · show _ = pv_b (s_lt x y u v)
                  rw [hE]
                  first
                    | (exfalso; exact absurd (show (0 : Int32) = 1 from by assumption) (by decide))
                    | (simp_all [pv_b]; done)
                · show _ = pv_b (s_lt u v x y)
                  rw [hE2]
                  first
                    | (exfalso; exact absurd (show (0 : Int32) = 1 from by assumption) (by decide))
                    | (simp_all [pv_b]; done)
    · refine pv_lload_15 (pc := 24) dX12_isLess_24 ?_
      refine pv_lconst (pc := 26) (v := 0) dX12_isLess_26 (by decide) ?_
      refine pv_lcmp_ne (pc := 27) (tgt := 86) dX12_isLess_27 dX12_isLess_28 (by decide) (fun h27 => ?_) (fun h27 => ?_)
      · have hy0 : ¬ y = 0 := h20
        have hv0 : ¬ v = 0 := (by first | exact h27 | exact fun q => h27 (not_not_intro q))
        refine pv_aload_0 (pc := 86) dX12_isLess_86 ?_
        refine pv_lload_9 (pc := 87) dX12_isLess_87 ?_
        refine pv_lload_11 (pc := 89) dX12_isLess_89 ?_
        refine pv_callV1 (pc := 91) dX12_isLess_91 mgX12_floor lv_X12_326_12 (by decide) (sx_61 hT) (by omega) (c_X12_floor hy0) rfl rfl (by decide) ?_
        refine pv_lstore_18 (pc := 94) dX12_isLess_94 (by decide) rfl ?_
        refine pv_aload_0 (pc := 96) dX12_isLess_96 ?_
        refine pv_lload_13 (pc := 97) dX12_isLess_97 ?_
        refine pv_lload_15 (pc := 99) dX12_isLess_99 ?_
        refine pv_callV1 (pc := 101) dX12_isLess_101 mgX12_floor lv_X12_326_12 (by decide) (sx_61 hT) (by omega) (c_X12_floor hv0) rfl rfl (by decide) ?_
        refine pv_lstore_20 (pc := 104) dX12_isLess_104 (by decide) rfl ?_
        refine pv_lload_18 (pc := 106) dX12_isLess_106 ?_
        refine pv_lload_20 (pc := 108) dX12_isLess_108 ?_
        refine pv_lcmp_eq (pc := 110) (tgt := 149) dX12_isLess_110 dX12_isLess_111 (by decide) (fun h110 => ?_) (fun h110 => ?_)
        · refine pv_lload_9 (pc := 149) dX12_isLess_149 ?_
          refine pv_lload_18 (pc := 151) dX12_isLess_151 ?_
          refine pv_lload_11 (pc := 153) dX12_isLess_153 ?_
          refine pv_lmul (pc := 155) dX12_isLess_155 ?_
          refine pv_lsub (pc := 156) dX12_isLess_156 ?_
          refine pv_lstore_22 (pc := 157) dX12_isLess_157 (by decide) rfl ?_
          refine pv_lload_13 (pc := 159) dX12_isLess_159 ?_
          refine pv_lload_20 (pc := 161) dX12_isLess_161 ?_
          refine pv_lload_15 (pc := 163) dX12_isLess_163 ?_
          refine pv_lmul (pc := 165) dX12_isLess_165 ?_
          refine pv_lsub (pc := 166) dX12_isLess_166 ?_
          refine pv_lstore_24 (pc := 167) dX12_isLess_167 (by decide) rfl ?_
          refine pv_lload_11 (pc := 169) dX12_isLess_169 ?_
          refine pv_lstore_9 (pc := 171) dX12_isLess_171 (by decide) rfl ?_
          refine pv_lload_22 (pc := 173) dX12_isLess_173 ?_
          refine pv_lstore_11 (pc := 175) dX12_isLess_175 (by decide) rfl ?_
          refine pv_lload_15 (pc := 177) dX12_isLess_177 ?_
          refine pv_lstore_13 (pc := 179) dX12_isLess_179 (by decide) rfl ?_
          refine pv_lload_24 (pc := 181) dX12_isLess_181 ?_
          refine pv_lstore_15 (pc := 183) dX12_isLess_183 (by decide) rfl ?_
          refine pv_iload_17 (pc := 185) dX12_isLess_185 ?_
          refine pv_if_ne (pc := 187) (tgt := 194) dX12_isLess_187 (by decide) (fun h187 => ?_) (fun h187 => ?_)
          · refine pv_iconst (pc := 194) (v := 0) dX12_isLess_194 (by decide) ?_
            refine pv_istore_17 (pc := 195) dX12_isLess_195 (by decide) rfl ?_
            refine pv_goto (pc := 197) (tgt := 17) dX12_isLess_197 (by decide) ?_
            have hfl : s_floor x y = s_floor u v := (by first | exact h110 | exact Classical.not_not.mp h110)
            obtain ⟨g0, g1, g2, g3, g4⟩ := n_f hx hy0
            have hyl : y.toInt.toNat ≤ m := by omega
            first
              | (have f1 : T = true := (pv_b_n0 _).mp h187
                 subst f1
                 exact ih y (n_r x y) v (n_r u v) false _ _ _ _ _ _ _ _ (n_nx hx hy0) (n_nx hu hv0) (by omega) (by rw [← hr]; show s_lt y (n_r x y) v (n_r u v) = s_lt u v x y; rw [lt_eq hu hx hv0 hy0 hfl.symm]))
              | (have f1 : T = false := (pv_b_0 _).mp h187
                 subst f1
                 exact ih y (n_r x y) v (n_r u v) true _ _ _ _ _ _ _ _ (n_nx hx hy0) (n_nx hu hv0) (by omega) (by rw [← hr]; show s_lt v (n_r u v) y (n_r x y) = s_lt x y u v; rw [lt_eq hx hu hy0 hv0 hfl]))
          · refine pv_iconst (pc := 190) (v := 1) dX12_isLess_190 (by decide) ?_
            refine pv_goto (pc := 191) (tgt := 195) dX12_isLess_191 (by decide) ?_
            refine pv_istore_17 (pc := 195) dX12_isLess_195 (by decide) rfl ?_
            refine pv_goto (pc := 197) (tgt := 17) dX12_isLess_197 (by decide) ?_
            have hfl : s_floor x y = s_floor u v := (by first | exact h110 | exact Classical.not_not.mp h110)
            obtain ⟨g0, g1, g2, g3, g4⟩ := n_f hx hy0
            have hyl : y.toInt.toNat ≤ m := by omega
            first
              | (have f1 : T = true := (pv_b_n0 _).mp h187
                 subst f1
                 exact ih y (n_r x y) v (n_r u v) false _ _ _ _ _ _ _ _ (n_nx hx hy0) (n_nx hu hv0) (by omega) (by rw [← hr]; show s_lt y (n_r x y) v (n_r u v) = s_lt u v x y; rw [lt_eq hu hx hv0 hy0 hfl.symm]))
              | (have f1 : T = false := (pv_b_0 _).mp h187
                 subst f1
                 exact ih y (n_r x y) v (n_r u v) true _ _ _ _ _ _ _ _ (n_nx hx hy0) (n_nx hu hv0) (by omega) (by rw [← hr]; show s_lt v (n_r u v) y (n_r x y) = s_lt x y u v; rw [lt_eq hx hu hy0 hv0 hfl]))
        · refine pv_iload_17 (pc := 114) dX12_isLess_114 ?_
          refine pv_if_eq (pc := 116) (tgt := 135) dX12_isLess_116 (by decide) (fun h116 => ?_) (fun h116 => ?_)
          · refine pv_lload_18 (pc := 135) dX12_isLess_135 ?_
            refine pv_lload_20 (pc := 137) dX12_isLess_137 ?_
            refine pv_lcmp_ge (pc := 139) (tgt := 147) dX12_isLess_139 dX12_isLess_140 (by decide) (fun h139 => ?_) (fun h139 => ?_)
            · refine pv_iconst (pc := 147) (v := 0) dX12_isLess_147 (by decide) ?_
              refine pv_iret (pc := 148) dX12_isLess_148 rfl rfl ?_
              refine ⟨congrArg (fun z => some (Value.int z)) ?_, rfl, rfl, rfl, rfl⟩
              rw [← hr]
              have hE := lt_ne hx hu hy0 hv0 h110
              have hE2 := lt_ne hu hx hv0 hy0 (fun q => h110 q.symm)
              cases T
              · show _ = pv_b (s_lt x y u v)
                rw [hE]
                simp_all [pv_b]
              · show _ = pv_b (s_lt u v x y)
                rw [hE2]
                simp_all [pv_b]
            · refine pv_iconst (pc := 143) (v := 1) dX12_isLess_143 (by decide) ?_
              refine pv_goto (pc := 144) (tgt := 148) dX12_isLess_144 (by decide) ?_
              refine pv_iret (pc := 148) dX12_isLess_148 rfl rfl ?_
              refine ⟨congrArg (fun z => some (Value.int z)) ?_, rfl, rfl, rfl, rfl⟩
              rw [← hr]
              have hE := lt_ne hx hu hy0 hv0 h110
              have hE2 := lt_ne hu hx hv0 hy0 (fun q => h110 q.symm)
              cases T
              · show _ = pv_b (s_lt x y u v)
                rw [hE]
                simp_all [pv_b]
              · show _ = pv_b (s_lt u v x y)
                rw [hE2]
                simp_all [pv_b]
          · refine pv_lload_18 (pc := 119) dX12_isLess_119 ?_
            refine pv_lload_20 (pc := 121) dX12_isLess_121 ?_
            refine pv_lcmp_le (pc := 123) (tgt := 131) dX12_isLess_123 dX12_isLess_124 (by decide) (fun h123 => ?_) (fun h123 => ?_)
            · refine pv_iconst (pc := 131) (v := 0) dX12_isLess_131 (by decide) ?_
              refine pv_goto (pc := 132) (tgt := 148) dX12_isLess_132 (by decide) ?_
              refine pv_iret (pc := 148) dX12_isLess_148 rfl rfl ?_
              refine ⟨congrArg (fun z => some (Value.int z)) ?_, rfl, rfl, rfl, rfl⟩
              rw [← hr]
              have hE := lt_ne hx hu hy0 hv0 h110
              have hE2 := lt_ne hu hx hv0 hy0 (fun q => h110 q.symm)
              cases T
              · show _ = pv_b (s_lt x y u v)
                rw [hE]
                simp_all [pv_b]
              · show _ = pv_b (s_lt u v x y)
                rw [hE2]
                simp_all [pv_b]
            · refine pv_iconst (pc := 127) (v := 1) dX12_isLess_127 (by decide) ?_
              refine pv_goto (pc := 128) (tgt := 148) dX12_isLess_128 (by decide) ?_
              refine pv_iret (pc := 148) dX12_isLess_148 rfl rfl ?_
              refine ⟨congrArg (fun z => some (Value.int z)) ?_, rfl, rfl, rfl, rfl⟩
              rw [← hr]
              have hE := lt_ne hx hu hy0 hv0 h110
              have hE2 := lt_ne hu hx hv0 hy0 (fun q => h110 q.symm)
              cases T
              · show _ = pv_b (s_lt x y u v)
                rw [hE]
                simp_all [pv_b]
              · show _ = pv_b (s_lt u v x y)
                rw [hE2]
                simp_all [pv_b]
      · refine pv_lload_15 (pc := 31) dX12_isLess_31 ?_
        refine pv_lconst (pc := 33) (v := 0) dX12_isLess_33 (by decide) ?_
        refine pv_lcmp_ne (pc := 34) (tgt := 49) dX12_isLess_34 dX12_isLess_35 (by decide) (fun h34 => ?_) (fun h34 => ?_)
        · refine pv_iconst (pc := 49) (v := 0) dX12_isLess_49 (by decide) ?_
          refine pv_istore_18 (pc := 50) dX12_isLess_50 (by decide) rfl ?_
          refine pv_lload_11 (pc := 52) dX12_isLess_52 ?_
          refine pv_lconst (pc := 54) (v := 0) dX12_isLess_54 (by decide) ?_
          refine pv_lcmp_ne (pc := 55) (tgt := 70) dX12_isLess_55 dX12_isLess_56 (by decide) (fun h55 => ?_) (fun h55 => ?_)
          · refine pv_iconst (pc := 70) (v := 0) dX12_isLess_70 (by decide) ?_
            refine pv_istore_19 (pc := 71) dX12_isLess_71 (by decide) rfl ?_
            refine pv_iload_17 (pc := 73) dX12_isLess_73 ?_
            refine pv_if_eq (pc := 75) (tgt := 83) dX12_isLess_75 (by decide) (fun h75 => ?_) (fun h75 => ?_)
            · refine pv_iload_18 (pc := 83) dX12_isLess_83 ?_
              refine pv_iret (pc := 85) dX12_isLess_85 rfl rfl ?_
              have hz : y = 0 ∨ v = 0 := (by first | exact Or.inl h20 | exact Or.inr (Classical.not_not.mp h27) | exact Or.inr h27)
              refine ⟨congrArg (fun z => some (Value.int z)) ?_, rfl, rfl, rfl, rfl⟩
              rw [← hr]
              have hE := lt_end hx hu hz
              have hE2 := lt_end hu hx (Or.symm hz)
              cases T
              · show _ = pv_b (s_lt x y u v)
                rw [hE]
                first
                  | (exfalso; exact absurd (show (0 : Int32) = 1 from by assumption) (by decide))
                  | (simp_all [pv_b]; done)
              · show _ = pv_b (s_lt u v x y)
                rw [hE2]
                first
                  | (exfalso; exact absurd (show (0 : Int32) = 1 from by assumption) (by decide))
                  | (simp_all [pv_b]; done)
            · refine pv_iload_19 (pc := 78) dX12_isLess_78 ?_
              refine pv_goto (pc := 80) (tgt := 85) dX12_isLess_80 (by decide) ?_
              refine pv_iret (pc := 85) dX12_isLess_85 rfl rfl ?_
              have hz : y = 0 ∨ v = 0 := (by first | exact Or.inl h20 | exact Or.inr (Classical.not_not.mp h27) | exact Or.inr h27)
              refine ⟨congrArg (fun z => some (Value.int z)) ?_, rfl, rfl, rfl, rfl⟩
              rw [← hr]
              have hE := lt_end hx hu hz
              have hE2 := lt_end hu hx (Or.symm hz)
              cases T
              · show _ = pv_b (s_lt x y u v)
                rw [hE]
                first
                  | (exfalso; exact absurd (show (0 : Int32) = 1 from by assumption) (by decide))
                  | (simp_all [pv_b]; done)
              · show _ = pv_b (s_lt u v x y)
                rw [hE2]
                first
                  | (exfalso; exact absurd (show (0 : Int32) = 1 from by assumption) (by decide))
                  | (simp_all [pv_b]; done)
          · refine pv_lload_15 (pc := 59) dX12_isLess_59 ?_
            refine pv_lconst (pc := 61) (v := 0) dX12_isLess_61 (by decide) ?_
            refine pv_lcmp_eq (pc := 62) (tgt := 70) dX12_isLess_62 dX12_isLess_63 (by decide) (fun h62 => ?_) (fun h62 => ?_)
            · refine pv_iconst (pc := 70) (v := 0) dX12_isLess_70 (by decide) ?_
              refine pv_istore_19 (pc := 71) dX12_isLess_71 (by decide) rfl ?_
              refine pv_iload_17 (pc := 73) dX12_isLess_73 ?_
              refine pv_if_eq (pc := 75) (tgt := 83) dX12_isLess_75 (by decide) (fun h75 => ?_) (fun h75 => ?_)
              · refine pv_iload_18 (pc := 83) dX12_isLess_83 ?_
                refine pv_iret (pc := 85) dX12_isLess_85 rfl rfl ?_
                have hz : y = 0 ∨ v = 0 := (by first | exact Or.inl h20 | exact Or.inr (Classical.not_not.mp h27) | exact Or.inr h27)
                refine ⟨congrArg (fun z => some (Value.int z)) ?_, rfl, rfl, rfl, rfl⟩
                rw [← hr]
                have hE := lt_end hx hu hz
                have hE2 := lt_end hu hx (Or.symm hz)
                cases T
                · show _ = pv_b (s_lt x y u v)
                  rw [hE]
                  first
                    | (exfalso; exact absurd (show (0 : Int32) = 1 from by assumption) (by decide))
                    | (simp_all [pv_b]; done)
                · show _ = pv_b (s_lt u v x y)
                  rw [hE2]
                  first
                    | (exfalso; exact absurd (show (0 : Int32) = 1 from by assumption) (by decide))
                    | (simp_all [pv_b]; done)
              · refine pv_iload_19 (pc := 78) dX12_isLess_78 ?_
                refine pv_goto (pc := 80) (tgt := 85) dX12_isLess_80 (by decide) ?_
                refine pv_iret (pc := 85) dX12_isLess_85 rfl rfl ?_
                have hz : y = 0 ∨ v = 0 := (by first | exact Or.inl h20 | exact Or.inr (Classical.not_not.mp h27) | exact Or.inr h27)
                refine ⟨congrArg (fun z => some (Value.int z)) ?_, rfl, rfl, rfl, rfl⟩
                rw [← hr]
                have hE := lt_end hx hu hz
                have hE2 := lt_end hu hx (Or.symm hz)
                cases T
                · show _ = pv_b (s_lt x y u v)
                  rw [hE]
                  first
                    | (exfalso; exact absurd (show (0 : Int32) = 1 from by assumption) (by decide))
                    | (simp_all [pv_b]; done)
                · show _ = pv_b (s_lt u v x y)
                  rw [hE2]
                  first
                    | (exfalso; exact absurd (show (0 : Int32) = 1 from by assumption) (by decide))
                    | (simp_all [pv_b]; done)
            · refine pv_iconst (pc := 66) (v := 1) dX12_isLess_66 (by decide) ?_
              refine pv_goto (pc := 67) (tgt := 71) dX12_isLess_67 (by decide) ?_
              refine pv_istore_19 (pc := 71) dX12_isLess_71 (by decide) rfl ?_
              refine pv_iload_17 (pc := 73) dX12_isLess_73 ?_
              refine pv_if_eq (pc := 75) (tgt := 83) dX12_isLess_75 (by decide) (fun h75 => ?_) (fun h75 => ?_)
              · refine pv_iload_18 (pc := 83) dX12_isLess_83 ?_
                refine pv_iret (pc := 85) dX12_isLess_85 rfl rfl ?_
                have hz : y = 0 ∨ v = 0 := (by first | exact Or.inl h20 | exact Or.inr (Classical.not_not.mp h27) | exact Or.inr h27)
                refine ⟨congrArg (fun z => some (Value.int z)) ?_, rfl, rfl, rfl, rfl⟩
                rw [← hr]
                have hE := lt_end hx hu hz
                have hE2 := lt_end hu hx (Or.symm hz)
                cases T
                · show _ = pv_b (s_lt x y u v)
                  rw [hE]
                  first
                    | (exfalso; exact absurd (show (0 : Int32) = 1 from by assumption) (by decide))
                    | (simp_all [pv_b]; done)
                · show _ = pv_b (s_lt u v x y)
                  rw [hE2]
                  first
                    | (exfalso; exact absurd (show (0 : Int32) = 1 from by assumption) (by decide))
                    | (simp_all [pv_b]; done)
              · refine pv_iload_19 (pc := 78) dX12_isLess_78 ?_
                refine pv_goto (pc := 80) (tgt := 85) dX12_isLess_80 (by decide) ?_
                refine pv_iret (pc := 85) dX12_isLess_85 rfl rfl ?_
                have hz : y = 0 ∨ v = 0 := (by first | exact Or.inl h20 | exact Or.inr (Classical.not_not.mp h27) | exact Or.inr h27)
                refine ⟨congrArg (fun z => some (Value.int z)) ?_, rfl, rfl, rfl, rfl⟩
                rw [← hr]
                have hE := lt_end hx hu hz
                have hE2 := lt_end hu hx (Or.symm hz)
                cases T
                · show _ = pv_b (s_lt x y u v)
                  rw [hE]
                  first
                    | (exfalso; exact absurd (show (0 : Int32) = 1 from by assumption) (by decide))
                    | (simp_all [pv_b]; done)
                · show _ = pv_b (s_lt u v x y)
                  rw [hE2]
                  first
                    | (exfalso; exact absurd (show (0 : Int32) = 1 from by assumption) (by decide))
                    | (simp_all [pv_b]; done)
        · refine pv_lload_11 (pc := 38) dX12_isLess_38 ?_
          refine pv_lconst (pc := 40) (v := 0) dX12_isLess_40 (by decide) ?_
          refine pv_lcmp_eq (pc := 41) (tgt := 49) dX12_isLess_41 dX12_isLess_42 (by decide) (fun h41 => ?_) (fun h41 => ?_)
          · refine pv_iconst (pc := 49) (v := 0) dX12_isLess_49 (by decide) ?_
            refine pv_istore_18 (pc := 50) dX12_isLess_50 (by decide) rfl ?_
            refine pv_lload_11 (pc := 52) dX12_isLess_52 ?_
            refine pv_lconst (pc := 54) (v := 0) dX12_isLess_54 (by decide) ?_
            refine pv_lcmp_ne (pc := 55) (tgt := 70) dX12_isLess_55 dX12_isLess_56 (by decide) (fun h55 => ?_) (fun h55 => ?_)
            · refine pv_iconst (pc := 70) (v := 0) dX12_isLess_70 (by decide) ?_
              refine pv_istore_19 (pc := 71) dX12_isLess_71 (by decide) rfl ?_
              refine pv_iload_17 (pc := 73) dX12_isLess_73 ?_
              refine pv_if_eq (pc := 75) (tgt := 83) dX12_isLess_75 (by decide) (fun h75 => ?_) (fun h75 => ?_)
              · refine pv_iload_18 (pc := 83) dX12_isLess_83 ?_
                refine pv_iret (pc := 85) dX12_isLess_85 rfl rfl ?_
                have hz : y = 0 ∨ v = 0 := (by first | exact Or.inl h20 | exact Or.inr (Classical.not_not.mp h27) | exact Or.inr h27)
                refine ⟨congrArg (fun z => some (Value.int z)) ?_, rfl, rfl, rfl, rfl⟩
                rw [← hr]
                have hE := lt_end hx hu hz
                have hE2 := lt_end hu hx (Or.symm hz)
                cases T
                · show _ = pv_b (s_lt x y u v)
                  rw [hE]
                  first
                    | (exfalso; exact absurd (show (0 : Int32) = 1 from by assumption) (by decide))
                    | (simp_all [pv_b]; done)
                · show _ = pv_b (s_lt u v x y)
                  rw [hE2]
                  first
                    | (exfalso; exact absurd (show (0 : Int32) = 1 from by assumption) (by decide))
                    | (simp_all [pv_b]; done)
              · refine pv_iload_19 (pc := 78) dX12_isLess_78 ?_
                refine pv_goto (pc := 80) (tgt := 85) dX12_isLess_80 (by decide) ?_
                refine pv_iret (pc := 85) dX12_isLess_85 rfl rfl ?_
                have hz : y = 0 ∨ v = 0 := (by first | exact Or.inl h20 | exact Or.inr (Classical.not_not.mp h27) | exact Or.inr h27)
                refine ⟨congrArg (fun z => some (Value.int z)) ?_, rfl, rfl, rfl, rfl⟩
                rw [← hr]
                have hE := lt_end hx hu hz
                have hE2 := lt_end hu hx (Or.symm hz)
                cases T
                · show _ = pv_b (s_lt x y u v)
                  rw [hE]
                  first
                    | (exfalso; exact absurd (show (0 : Int32) = 1 from by assumption) (by decide))
                    | (simp_all [pv_b]; done)
                · show _ = pv_b (s_lt u v x y)
                  rw [hE2]
                  first
                    | (exfalso; exact absurd (show (0 : Int32) = 1 from by assumption) (by decide))
                    | (simp_all [pv_b]; done)
            · refine pv_lload_15 (pc := 59) dX12_isLess_59 ?_
              refine pv_lconst (pc := 61) (v := 0) dX12_isLess_61 (by decide) ?_
              refine pv_lcmp_eq (pc := 62) (tgt := 70) dX12_isLess_62 dX12_isLess_63 (by decide) (fun h62 => ?_) (fun h62 => ?_)
              · refine pv_iconst (pc := 70) (v := 0) dX12_isLess_70 (by decide) ?_
                refine pv_istore_19 (pc := 71) dX12_isLess_71 (by decide) rfl ?_
                refine pv_iload_17 (pc := 73) dX12_isLess_73 ?_
                refine pv_if_eq (pc := 75) (tgt := 83) dX12_isLess_75 (by decide) (fun h75 => ?_) (fun h75 => ?_)
                · refine pv_iload_18 (pc := 83) dX12_isLess_83 ?_
                  refine pv_iret (pc := 85) dX12_isLess_85 rfl rfl ?_
                  have hz : y = 0 ∨ v = 0 := (by first | exact Or.inl h20 | exact Or.inr (Classical.not_not.mp h27) | exact Or.inr h27)
                  refine ⟨congrArg (fun z => some (Value.int z)) ?_, rfl, rfl, rfl, rfl⟩
                  rw [← hr]
                  have hE := lt_end hx hu hz
                  have hE2 := lt_end hu hx (Or.symm hz)
                  cases T
                  · show _ = pv_b (s_lt x y u v)
                    rw [hE]
                    first
                      | (exfalso; exact absurd (show (0 : Int32) = 1 from by assumption) (by decide))
                      | (simp_all [pv_b]; done)
                  · show _ = pv_b (s_lt u v x y)
                    rw [hE2]
                    first
                      | (exfalso; exact absurd (show (0 : Int32) = 1 from by assumption) (by decide))
                      | (simp_all [pv_b]; done)
                · refine pv_iload_19 (pc := 78) dX12_isLess_78 ?_
                  refine pv_goto (pc := 80) (tgt := 85) dX12_isLess_80 (by decide) ?_
                  refine pv_iret (pc := 85) dX12_isLess_85 rfl rfl ?_
                  have hz : y = 0 ∨ v = 0 := (by first | exact Or.inl h20 | exact Or.inr (Classical.not_not.mp h27) | exact Or.inr h27)
                  refine ⟨congrArg (fun z => some (Value.int z)) ?_, rfl, rfl, rfl, rfl⟩
                  rw [← hr]
                  have hE := lt_end hx hu hz
                  have hE2 := lt_end hu hx (Or.symm hz)
                  cases T
                  · show _ = pv_b (s_lt x y u v)
                    rw [hE]
                    first
                      | (exfalso; exact absurd (show (0 : Int32) = 1 from by assumption) (by decide))
                      | (simp_all [pv_b]; done)
                  · show _ = pv_b (s_lt u v x y)
                    rw [hE2]
                    first
                      | (exfalso; exact absurd (show (0 : Int32) = 1 from by assumption) (by decide))
                      | (simp_all [pv_b]; done)
              · refine pv_iconst (pc := 66) (v := 1) dX12_isLess_66 (by decide) ?_
                refine pv_goto (pc := 67) (tgt := 71) dX12_isLess_67 (by decide) ?_
                refine pv_istore_19 (pc := 71) dX12_isLess_71 (by decide) rfl ?_
                refine pv_iload_17 (pc := 73) dX12_isLess_73 ?_
                refine pv_if_eq (pc := 75) (tgt := 83) dX12_isLess_75 (by decide) (fun h75 => ?_) (fun h75 => ?_)
                · refine pv_iload_18 (pc := 83) dX12_isLess_83 ?_
                  refine pv_iret (pc := 85) dX12_isLess_85 rfl rfl ?_
                  have hz : y = 0 ∨ v = 0 := (by first | exact Or.inl h20 | exact Or.inr (Classical.not_not.mp h27) | exact Or.inr h27)
                  refine ⟨congrArg (fun z => some (Value.int z)) ?_, rfl, rfl, rfl, rfl⟩
                  rw [← hr]
                  have hE := lt_end hx hu hz
                  have hE2 := lt_end hu hx (Or.symm hz)
                  cases T
                  · show _ = pv_b (s_lt x y u v)
                    rw [hE]
                    first
                      | (exfalso; exact absurd (show (0 : Int32) = 1 from by assumption) (by decide))
                      | (simp_all [pv_b]; done)
                  · show _ = pv_b (s_lt u v x y)
                    rw [hE2]
                    first
                      | (exfalso; exact absurd (show (0 : Int32) = 1 from by assumption) (by decide))
                      | (simp_all [pv_b]; done)
                · refine pv_iload_19 (pc := 78) dX12_isLess_78 ?_
                  refine pv_goto (pc := 80) (tgt := 85) dX12_isLess_80 (by decide) ?_
                  refine pv_iret (pc := 85) dX12_isLess_85 rfl rfl ?_
                  have hz : y = 0 ∨ v = 0 := (by first | exact Or.inl h20 | exact Or.inr (Classical.not_not.mp h27) | exact Or.inr h27)
                  refine ⟨congrArg (fun z => some (Value.int z)) ?_, rfl, rfl, rfl, rfl⟩
                  rw [← hr]
                  have hE := lt_end hx hu hz
                  have hE2 := lt_end hu hx (Or.symm hz)
                  cases T
                  · show _ = pv_b (s_lt x y u v)
                    rw [hE]
                    first
                      | (exfalso; exact absurd (show (0 : Int32) = 1 from by assumption) (by decide))
                      | (simp_all [pv_b]; done)
                  · show _ = pv_b (s_lt u v x y)
                    rw [hE2]
                    first
                      | (exfalso; exact absurd (show (0 : Int32) = 1 from by assumption) (by decide))
                      | (simp_all [pv_b]; done)
          · refine pv_iconst (pc := 45) (v := 1) dX12_isLess_45 (by decide) ?_
            refine pv_goto (pc := 46) (tgt := 50) dX12_isLess_46 (by decide) ?_
            refine pv_istore_18 (pc := 50) dX12_isLess_50 (by decide) rfl ?_
            refine pv_lload_11 (pc := 52) dX12_isLess_52 ?_
            refine pv_lconst (pc := 54) (v := 0) dX12_isLess_54 (by decide) ?_
            refine pv_lcmp_ne (pc := 55) (tgt := 70) dX12_isLess_55 dX12_isLess_56 (by decide) (fun h55 => ?_) (fun h55 => ?_)
            · refine pv_iconst (pc := 70) (v := 0) dX12_isLess_70 (by decide) ?_
              refine pv_istore_19 (pc := 71) dX12_isLess_71 (by decide) rfl ?_
              refine pv_iload_17 (pc := 73) dX12_isLess_73 ?_
              refine pv_if_eq (pc := 75) (tgt := 83) dX12_isLess_75 (by decide) (fun h75 => ?_) (fun h75 => ?_)
              · refine pv_iload_18 (pc := 83) dX12_isLess_83 ?_
                refine pv_iret (pc := 85) dX12_isLess_85 rfl rfl ?_
                have hz : y = 0 ∨ v = 0 := (by first | exact Or.inl h20 | exact Or.inr (Classical.not_not.mp h27) | exact Or.inr h27)
                refine ⟨congrArg (fun z => some (Value.int z)) ?_, rfl, rfl, rfl, rfl⟩
                rw [← hr]
                have hE := lt_end hx hu hz
                have hE2 := lt_end hu hx (Or.symm hz)
                cases T
                · show _ = pv_b (s_lt x y u v)
                  rw [hE]
                  first
                    | (exfalso; exact absurd (show (0 : Int32) = 1 from by assumption) (by decide))
                    | (simp_all [pv_b]; done)
                · show _ = pv_b (s_lt u v x y)
                  rw [hE2]
                  first
                    | (exfalso; exact absurd (show (0 : Int32) = 1 from by assumption) (by decide))
                    | (simp_all [pv_b]; done)
              · refine pv_iload_19 (pc := 78) dX12_isLess_78 ?_
                refine pv_goto (pc := 80) (tgt := 85) dX12_isLess_80 (by decide) ?_
                refine pv_iret (pc := 85) dX12_isLess_85 rfl rfl ?_
                have hz : y = 0 ∨ v = 0 := (by first | exact Or.inl h20 | exact Or.inr (Classical.not_not.mp h27) | exact Or.inr h27)
                refine ⟨congrArg (fun z => some (Value.int z)) ?_, rfl, rfl, rfl, rfl⟩
                rw [← hr]
                have hE := lt_end hx hu hz
                have hE2 := lt_end hu hx (Or.symm hz)
                cases T
                · show _ = pv_b (s_lt x y u v)
                  rw [hE]
                  first
                    | (exfalso; exact absurd (show (0 : Int32) = 1 from by assumption) (by decide))
                    | (simp_all [pv_b]; done)
                · show _ = pv_b (s_lt u v x y)
                  rw [hE2]
                  first
                    | (exfalso; exact absurd (show (0 : Int32) = 1 from by assumption) (by decide))
                    | (simp_all [pv_b]; done)
            · refine pv_lload_15 (pc := 59) dX12_isLess_59 ?_
              refine pv_lconst (pc := 61) (v := 0) dX12_isLess_61 (by decide) ?_
              refine pv_lcmp_eq (pc := 62) (tgt := 70) dX12_isLess_62 dX12_isLess_63 (by decide) (fun h62 => ?_) (fun h62 => ?_)
              · refine pv_iconst (pc := 70) (v := 0) dX12_isLess_70 (by decide) ?_
                refine pv_istore_19 (pc := 71) dX12_isLess_71 (by decide) rfl ?_
                refine pv_iload_17 (pc := 73) dX12_isLess_73 ?_
                refine pv_if_eq (pc := 75) (tgt := 83) dX12_isLess_75 (by decide) (fun h75 => ?_) (fun h75 => ?_)
                · refine pv_iload_18 (pc := 83) dX12_isLess_83 ?_
                  refine pv_iret (pc := 85) dX12_isLess_85 rfl rfl ?_
                  have hz : y = 0 ∨ v = 0 := (by first | exact Or.inl h20 | exact Or.inr (Classical.not_not.mp h27) | exact Or.inr h27)
                  refine ⟨congrArg (fun z => some (Value.int z)) ?_, rfl, rfl, rfl, rfl⟩
                  rw [← hr]
                  have hE := lt_end hx hu hz
                  have hE2 := lt_end hu hx (Or.symm hz)
                  cases T
                  · show _ = pv_b (s_lt x y u v)
                    rw [hE]
                    first
                      | (exfalso; exact absurd (show (0 : Int32) = 1 from by assumption) (by decide))
                      | (simp_all [pv_b]; done)
                  · show _ = pv_b (s_lt u v x y)
                    rw [hE2]
                    first
                      | (exfalso; exact absurd (show (0 : Int32) = 1 from by assumption) (by decide))
                      | (simp_all [pv_b]; done)
                · refine pv_iload_19 (pc := 78) dX12_isLess_78 ?_
                  refine pv_goto (pc := 80) (tgt := 85) dX12_isLess_80 (by decide) ?_
                  refine pv_iret (pc := 85) dX12_isLess_85 rfl rfl ?_
                  have hz : y = 0 ∨ v = 0 := (by first | exact Or.inl h20 | exact Or.inr (Classical.not_not.mp h27) | exact Or.inr h27)
                  refine ⟨congrArg (fun z => some (Value.int z)) ?_, rfl, rfl, rfl, rfl⟩
                  rw [← hr]
                  have hE := lt_end hx hu hz
                  have hE2 := lt_end hu hx (Or.symm hz)
                  cases T
                  · show _ = pv_b (s_lt x y u v)
                    rw [hE]
                    first
                      | (exfalso; exact absurd (show (0 : Int32) = 1 from by assumption) (by decide))
                      | (simp_all [pv_b]; done)
                  · show _ = pv_b (s_lt u v x y)
                    rw [hE2]
                    first
                      | (exfalso; exact absurd (show (0 : Int32) = 1 from by assumption) (by decide))
                      | (simp_all [pv_b]; done)
              · refine pv_iconst (pc := 66) (v := 1) dX12_isLess_66 (by decide) ?_
                refine pv_goto (pc := 67) (tgt := 71) dX12_isLess_67 (by decide) ?_
                refine pv_istore_19 (pc := 71) dX12_isLess_71 (by decide) rfl ?_
                refine pv_iload_17 (pc := 73) dX12_isLess_73 ?_
                refine pv_if_eq (pc := 75) (tgt := 83) dX12_isLess_75 (by decide) (fun h75 => ?_) (fun h75 => ?_)
                · refine pv_iload_18 (pc := 83) dX12_isLess_83 ?_
                  refine pv_iret (pc := 85) dX12_isLess_85 rfl rfl ?_
                  have hz : y = 0 ∨ v = 0 := (by first | exact Or.inl h20 | exact Or.inr (Classical.not_not.mp h27) | exact Or.inr h27)
                  refine ⟨congrArg (fun z => some (Value.int z)) ?_, rfl, rfl, rfl, rfl⟩
                  rw [← hr]
                  have hE := lt_end hx hu hz
                  have hE2 := lt_end hu hx (Or.symm hz)
                  cases T
                  · show _ = pv_b (s_lt x y u v)
                    rw [hE]
                    first
                      | (exfalso; exact absurd (show (0 : Int32) = 1 from by assumption) (by decide))
                      | (simp_all [pv_b]; done)
                  · show _ = pv_b (s_lt u v x y)
                    rw [hE2]
                    first
                      | (exfalso; exact absurd (show (0 : Int32) = 1 from by assumption) (by decide))
                      | (simp_all [pv_b]; done)
                · refine pv_iload_19 (pc := 78) dX12_isLess_78 ?_
                  refine pv_goto (pc := 80) (tgt := 85) dX12_isLess_80 (by decide) ?_
                  refine pv_iret (pc := 85) dX12_isLess_85 rfl rfl ?_
                  have hz : y = 0 ∨ v = 0 := (by first | exact Or.inl h20 | exact Or.inr (Classical.not_not.mp h27) | exact Or.inr h27)
                  refine ⟨congrArg (fun z => some (Value.int z)) ?_, rfl, rfl, rfl, rfl⟩
                  rw [← hr]
                  have hE := lt_end hx hu hz
                  have hE2 := lt_end hu hx (Or.symm hz)
                  cases T
                  · show _ = pv_b (s_lt x y u v)
                    rw [hE]
                    first
                      | (exfalso; exact absurd (show (0 : Int32) = 1 from by assumption) (by decide))
                      | (simp_all [pv_b]; done)
                  · show _ = pv_b (s_lt u v x y)
                    rw [hE2]
                    first
                      | (exfalso; exact absurd (show (0 : Int32) = 1 from by assumption) (by decide))
                      | (simp_all [pv_b]; done)

set_option maxRecDepth 100000 in
set_option maxHeartbeats 4000000 in
theorem c_X12_isLess {G : pv_G} {d : Nat} {a b c d1 : Int64} {t : pv_T} {I : pv_I} {L : pv_L} {Rf : pv_R} (hT : sh_ok t) (hx : n_ok a b) (hu : n_ok c d1) (hd : 1 ≤ d) : pv_Mt G mX12_isLess d 0 0 [.ref 61, .long a, .long b, .long c, .long d1] t I L Rf (pv_is (some (.int (pv_b (s_lt a b c d1)))) t I L Rf) := by
  refine pv_mt mgX12_isLess.2.2.2.2.2 [.ref 61, .long a, .retAddr 0, .long b, .retAddr 0, .long c, .retAddr 0, .long d1, .retAddr 0, .retAddr 0, .retAddr 0, .retAddr 0, .retAddr 0, .retAddr 0, .retAddr 0, .retAddr 0, .retAddr 0, .retAddr 0, .retAddr 0, .retAddr 0, .retAddr 0, .retAddr 0, .retAddr 0, .retAddr 0, .retAddr 0, .retAddr 0] rfl (Nat.le_of_ble_eq_true rfl) ?_
  refine pv_lload_1 (pc := 0) dX12_isLess_0 ?_
  refine pv_lstore_9 (pc := 1) dX12_isLess_1 (by decide) rfl ?_
  refine pv_lload_3 (pc := 3) dX12_isLess_3 ?_
  refine pv_lstore_11 (pc := 4) dX12_isLess_4 (by decide) rfl ?_
  refine pv_lload_5 (pc := 6) dX12_isLess_6 ?_
  refine pv_lstore_13 (pc := 8) dX12_isLess_8 (by decide) rfl ?_
  refine pv_lload_7 (pc := 10) dX12_isLess_10 ?_
  refine pv_lstore_15 (pc := 12) dX12_isLess_12 (by decide) rfl ?_
  refine pv_iconst (pc := 14) (v := 0) dX12_isLess_14 (by decide) ?_
  refine pv_istore_17 (pc := 15) dX12_isLess_15 (by decide) rfl ?_
  exact l_less hT hd (b.toInt.toNat + 1) a b c d1 false _ _ _ _ _ _ _ _ hx hu (Nat.lt_succ_self _) rfl

