/-! the class: halls; a figure danced -/
theorem i_and1 (k : Int32) : (k &&& 1 = 0) ↔ (k % 2 = 0) := by
  have h1 : (k &&& 1).toInt = k.toInt % 2 ^ 1 := Jvm.Kit.i32_mask k 1 (by decide) (by decide)
  have h2 : (k % 2).toInt = k.toInt.tmod 2 := by rw [Int32.toInt_mod]; rfl
  rw [← Int32.toInt_inj, ← Int32.toInt_inj, h1, h2, Int32.toInt_zero]
  constructor
  · intro q; exact Int.tmod_eq_zero_of_dvd (Int.dvd_of_emod_eq_zero (by omega))
  · intro q; have := Int.emod_eq_zero_of_dvd (Int.dvd_of_tmod_eq_zero q); omega
/-- only the hall h is changed -/
def fH (h : Nat) (I : pv_I) (L : pv_L) (I1 : pv_I) (L1 : pv_L) : Prop := (∀ a j, a ≠ h → a ≠ h + 1 → I1 a j = I a j) ∧ (∀ a j, a ≠ h → L1 a j = L a j)
theorem fH.rf {h : Nat} {I : pv_I} {L : pv_L} : fH h I L I L := ⟨fun _ _ _ _ => rfl, fun _ _ _ => rfl⟩
theorem fH.tr {h : Nat} {I I1 I2 : pv_I} {L L1 L2 : pv_L} (g : fH h I L I1 L1) (g2 : fH h I1 L1 I2 L2) : fH h I L I2 L2 := ⟨fun a j h1 h2 => (g2.1 a j h1 h2).trans (g.1 a j h1 h2), fun a j h1 => (g2.2 a j h1).trans (g.2 a j h1)⟩
theorem fH.uI {h : Nat} {I I1 : pv_I} {L L1 : pv_L} (g : fH h I L I1 L1) (a j : Nat) (v : Int32) (ha : a = h ∨ a = h + 1) : fH h I L (pv_u I1 a j v) L1 := ⟨fun b i h1 h2 => by rw [pv_u_o _ (by omega)]; exact g.1 b i h1 h2, g.2⟩
theorem fH.uL {h : Nat} {I I1 : pv_I} {L L1 : pv_L} (g : fH h I L I1 L1) (j : Nat) (v : Int64) : fH h I L I1 (pv_u L1 h j v) := ⟨g.1, fun b i h1 => by rw [pv_u_o _ (by omega)]; exact g.2 b i h1⟩
theorem fH.kC {h : Nat} {I I1 : pv_I} {L L1 : pv_L} (g : fH h I L I1 L1) (hh : h = 25 ∨ h = 27) : kC I L I1 L1 := ⟨fun a j h1 _ => g.1 a j (by omega) (by omega), fun a j h1 => g.2 a j (by omega)⟩
def y_ok (p : Int64) : Bool := !decide (1000000000000 < p) && !decide (p < -1000000000000)
/-- a hall's cells -/
def hl_ok (t : pv_T) (Rf : pv_R) (h : Nat) : Prop := 16 ≤ h ∧ h + 1 < 90 ∧ t.1 h = some (.inr 4) ∧ t.1 (h + 1) = some (.inl (.int, 4)) ∧ Rf h 0 = some (h + 1)
theorem hl_21 {t : pv_T} {Rf : pv_R} (hT : sh_ok t) (hR : rf_ok Rf) : hl_ok t Rf 21 := ⟨by decide, by decide, sx_21 hT, sx_22 hT, rx_21_0 hR⟩
theorem hl_23 {t : pv_T} {Rf : pv_R} (hT : sh_ok t) (hR : rf_ok Rf) : hl_ok t Rf 23 := ⟨by decide, by decide, sx_23 hT, sx_24 hT, rx_23_0 hR⟩
theorem hl_25 {t : pv_T} {Rf : pv_R} (hT : sh_ok t) (hR : rf_ok Rf) : hl_ok t Rf 25 := ⟨by decide, by decide, sx_25 hT, sx_26 hT, rx_25_0 hR⟩
theorem hl_27 {t : pv_T} {Rf : pv_R} (hT : sh_ok t) (hR : rf_ok Rf) : hl_ok t Rf 27 := ⟨by decide, by decide, sx_27 hT, sx_28 hT, rx_27_0 hR⟩
theorem XHw.frame {h h2 : Nat} {n st sp sd : Int32} {p q : Int64} {c : Nat → Int32} {I I1 : pv_I} {L L1 : pv_L} (g : XHw h2 n st sp sd p q c I L) (f : fH h I L I1 L1) (hn : h2 ≠ h ∧ h2 + 1 ≠ h ∧ h2 ≠ h + 1) : XHw h2 n st sp sd p q c I1 L1 := g.cg (fun j => f.1 h2 j (by omega) (by omega)) (fun j => f.1 (h2 + 1) j (by omega) (by omega)) (fun j => f.2 h2 j (by omega))

set_option maxRecDepth 100000 in
set_option maxHeartbeats 4000000 in
theorem c_X4_change {G : pv_G} {d : Nat} {k : Int32} {h : Nat} {n st sp sd : Int32} {p q : Int64} {c : Nat → Int32} {t : pv_T} {I : pv_I} {L : pv_L} {Rf : pv_R} (hh : hl_ok t Rf h) (hx : XHw h n st sp sd p q c I L) : pv_Mt G mX4_change d 0 0 [.ref h, .int k] t I L Rf (fun v t1 I1 L1 R1 => t1 = t ∧ R1 = Rf ∧ fH h I L I1 L1 ∧ ((y_ok (p + k.toInt64 * q) = true ∧ v = some (.int 1) ∧ XHw h n st sp sd (p + k.toInt64 * q) q (h_sw k c) I1 L1) ∨ (y_ok (p + k.toInt64 * q) = false ∧ v = some (.int 0) ∧ I1 = I ∧ L1 = L))) := by
  refine pv_mt mgX4_change.2.2.2.2.2 [.ref h, .int k, .retAddr 0, .retAddr 0, .retAddr 0] rfl (Nat.le_of_ble_eq_true rfl) ?_
  obtain ⟨x1, x2, x3, x4, x5, x6, x7⟩ := id hx
  have h16 := hh.1
  refine pv_aload_0 (pc := 0) dX4_change_0 ?_
  refine pv_getL (pc := 1) dX4_change_1 fg_X4_29_4 hh.1 hh.2.2.1 ?_
  refine pv_iload_1 (pc := 4) dX4_change_4 ?_
  refine pv_i2l (pc := 5) dX4_change_5 ?_
  refine pv_aload_0 (pc := 6) dX4_change_6 ?_
  refine pv_getL (pc := 7) dX4_change_7 fg_X4_15_4 hh.1 hh.2.2.1 ?_
  refine pv_lmul (pc := 10) dX4_change_10 ?_
  refine pv_ladd (pc := 11) dX4_change_11 ?_
  refine pv_lstore_2 (pc := 12) dX4_change_12 (by decide) rfl ?_
  refine pv_lload_2 (pc := 13) dX4_change_13 ?_
  refine pv_ldc2 (pc := 14) dX4_change_14 k_X4_62 ?_
  refine pv_lcmp_gt (pc := 17) (tgt := 29) dX4_change_17 dX4_change_18 (by decide) (fun h17 => ?_) (fun h17 => ?_)
  · refine pv_iconst (pc := 29) (v := 0) dX4_change_29 (by decide) ?_
    refine pv_iret (pc := 30) dX4_change_30 rfl rfl ?_
    refine ⟨rfl, rfl, fH.rf, Or.inr ⟨?_, rfl, rfl, rfl⟩⟩
    unfold y_ok
    first
      | (have f1 := h25; rw [x1, x2] at f1; rw [decide_eq_true (p := p + k.toInt64 * q < -1000000000000) (by first | exact f1 | exact Classical.not_not.mp f1), Bool.and_comm]; rfl)
      | (have f1 := h17; rw [x1, x2] at f1; rw [decide_eq_true f1]; rfl)
  · refine pv_lload_2 (pc := 21) dX4_change_21 ?_
    refine pv_ldc2 (pc := 22) dX4_change_22 k_X4_64 ?_
    refine pv_lcmp_ge (pc := 25) (tgt := 31) dX4_change_25 dX4_change_26 (by decide) (fun h25 => ?_) (fun h25 => ?_)
    · refine pv_aload_0 (pc := 31) dX4_change_31 ?_
      refine pv_lload_2 (pc := 32) dX4_change_32 ?_
      refine pv_putL (pc := 33) dX4_change_33 fl_X4_29_4 (fun q => by cases q) hh.1 hh.2.2.1 ?_
      refine pv_iload_1 (pc := 36) dX4_change_36 ?_
      refine pv_iconst (pc := 37) (v := 1) dX4_change_37 (by decide) ?_
      refine pv_iand (pc := 38) dX4_change_38 ?_
      refine pv_if_eq (pc := 39) (tgt := 70) dX4_change_39 (by decide) (fun h39 => ?_) (fun h39 => ?_)
      · refine pv_iconst (pc := 70) (v := 1) dX4_change_70 (by decide) ?_
        refine pv_iret (pc := 71) dX4_change_71 rfl rfl ?_
        have e : y_ok (p + k.toInt64 * q) = true := by
          unfold y_ok
          have f1 := h17; have f2 := h25
          rw [x1, x2] at f1 f2
          rw [decide_eq_false f1, decide_eq_false f2]; rfl
        have ev : L h 1 + k.toInt64 * L h 2 = p + k.toInt64 * q := by rw [x1, x2]
        refine ⟨rfl, rfl, ?_, Or.inl ⟨e, rfl, ?_⟩⟩
        · first
            | exact fH.rf.uL 1 _
            | exact ((fH.rf.uL 1 _).uI _ _ _ (Or.inr rfl)).uI _ _ _ (Or.inr rfl)
        · first
            | (have f3 := h39
               have f4 : k % 2 = 0 := (i_and1 k).mp (by first | exact f3 | exact Classical.not_not.mp f3)
               refine ⟨(by rw [pv_u_eq, if_pos rfl]; exact ev), (by rw [pv_u_eq, if_neg (by decide)]; exact x2), x3, x4, x5, x6, fun j hj => ?_⟩
               unfold h_sw; rw [if_pos f4]; exact x7 j hj)
            | (have f3 := h39
               have f4 : ¬ k % 2 = 0 := fun z => f3 ((i_and1 k).mpr z)
               have o : ∀ j, pv_u (pv_u I (h + 1) 1 (I (h + 1) 2)) (h + 1) 2 (I (h + 1) 1) h j = I h j := fun j => by rw [pv_u_o _ (by omega), pv_u_o _ (by omega)]
               refine ⟨(by rw [pv_u_eq, if_pos rfl]; exact ev), (by rw [pv_u_eq, if_neg (by decide)]; exact x2), (o 3).trans x3, (o 4).trans x4, (o 5).trans x5, (o 6).trans x6, fun j hj => ?_⟩
               unfold h_sw; rw [if_neg f4]
               show pv_u (pv_u I (h + 1) 1 (I (h + 1) 2)) (h + 1) 2 (I (h + 1) 1) (h + 1) j = if j = 1 then c 2 else if j = 2 then c 1 else c j
               rw [pv_u_eq, pv_u_eq]
               by_cases j2 : j = 2
               · subst j2; rw [if_pos rfl, if_neg (by decide), if_pos rfl]; exact x7 1 (by decide)
               · rw [if_neg j2]
                 by_cases j1 : j = 1
                 · subst j1; rw [if_pos rfl, if_pos rfl]; exact x7 2 (by decide)
                 · rw [if_neg j1, if_neg j1, if_neg j2]; exact x7 j hj)
      · refine pv_aload_0 (pc := 42) dX4_change_42 ?_
        refine pv_getR (pc := 43) dX4_change_43 fg_X4_9_4 rfl hh.1 hh.2.2.1 hh.2.2.2.2 ?_
        refine pv_iconst (pc := 46) (v := 1) dX4_change_46 (by decide) ?_
        refine pv_ialoadj (pc := 47) dX4_change_47 hh.2.2.2.1 (j := 1) (by decide) (by unfold vp_in; decide) ?_
        refine pv_istore_4 (pc := 48) dX4_change_48 (by decide) rfl ?_
        refine pv_aload_0 (pc := 50) dX4_change_50 ?_
        refine pv_getR (pc := 51) dX4_change_51 fg_X4_9_4 rfl hh.1 hh.2.2.1 hh.2.2.2.2 ?_
        refine pv_iconst (pc := 54) (v := 1) dX4_change_54 (by decide) ?_
        refine pv_aload_0 (pc := 55) dX4_change_55 ?_
        refine pv_getR (pc := 56) dX4_change_56 fg_X4_9_4 rfl hh.1 hh.2.2.1 hh.2.2.2.2 ?_
        refine pv_iconst (pc := 59) (v := 2) dX4_change_59 (by decide) ?_
        refine pv_ialoadj (pc := 60) dX4_change_60 hh.2.2.2.1 (j := 2) (by decide) (by unfold vp_in; decide) ?_
        refine pv_iastorej (pc := 61) dX4_change_61 (by have := hh.1; omega) hh.2.2.2.1 (j := 1) (by decide) (by unfold vp_in; decide) ?_
        refine pv_aload_0 (pc := 62) dX4_change_62 ?_
        refine pv_getR (pc := 63) dX4_change_63 fg_X4_9_4 rfl hh.1 hh.2.2.1 hh.2.2.2.2 ?_
        refine pv_iconst (pc := 66) (v := 2) dX4_change_66 (by decide) ?_
        refine pv_iload_4 (pc := 67) dX4_change_67 ?_
        refine pv_iastorej (pc := 69) dX4_change_69 (by have := hh.1; omega) hh.2.2.2.1 (j := 2) (by decide) (by unfold vp_in; decide) ?_
        refine pv_iconst (pc := 70) (v := 1) dX4_change_70 (by decide) ?_
        refine pv_iret (pc := 71) dX4_change_71 rfl rfl ?_
        have e : y_ok (p + k.toInt64 * q) = true := by
          unfold y_ok
          have f1 := h17; have f2 := h25
          rw [x1, x2] at f1 f2
          rw [decide_eq_false f1, decide_eq_false f2]; rfl
        have ev : L h 1 + k.toInt64 * L h 2 = p + k.toInt64 * q := by rw [x1, x2]
        refine ⟨rfl, rfl, ?_, Or.inl ⟨e, rfl, ?_⟩⟩
        · first
            | exact fH.rf.uL 1 _
            | exact ((fH.rf.uL 1 _).uI _ _ _ (Or.inr rfl)).uI _ _ _ (Or.inr rfl)
        · first
            | (have f3 := h39
               have f4 : k % 2 = 0 := (i_and1 k).mp (by first | exact f3 | exact Classical.not_not.mp f3)
               refine ⟨(by rw [pv_u_eq, if_pos rfl]; exact ev), (by rw [pv_u_eq, if_neg (by decide)]; exact x2), x3, x4, x5, x6, fun j hj => ?_⟩
               unfold h_sw; rw [if_pos f4]; exact x7 j hj)
            | (have f3 := h39
               have f4 : ¬ k % 2 = 0 := fun z => f3 ((i_and1 k).mpr z)
               have o : ∀ j, pv_u (pv_u I (h + 1) 1 (I (h + 1) 2)) (h + 1) 2 (I (h + 1) 1) h j = I h j := fun j => by rw [pv_u_o _ (by omega), pv_u_o _ (by omega)]
               refine ⟨(by rw [pv_u_eq, if_pos rfl]; exact ev), (by rw [pv_u_eq, if_neg (by decide)]; exact x2), (o 3).trans x3, (o 4).trans x4, (o 5).trans x5, (o 6).trans x6, fun j hj => ?_⟩
               unfold h_sw; rw [if_neg f4]
               show pv_u (pv_u I (h + 1) 1 (I (h + 1) 2)) (h + 1) 2 (I (h + 1) 1) (h + 1) j = if j = 1 then c 2 else if j = 2 then c 1 else c j
               rw [pv_u_eq, pv_u_eq]
               by_cases j2 : j = 2
               · subst j2; rw [if_pos rfl, if_neg (by decide), if_pos rfl]; exact x7 1 (by decide)
               · rw [if_neg j2]
                 by_cases j1 : j = 1
                 · subst j1; rw [if_pos rfl, if_pos rfl]; exact x7 2 (by decide)
                 · rw [if_neg j1, if_neg j1, if_neg j2]; exact x7 j hj)
    · refine pv_iconst (pc := 29) (v := 0) dX4_change_29 (by decide) ?_
      refine pv_iret (pc := 30) dX4_change_30 rfl rfl ?_
      refine ⟨rfl, rfl, fH.rf, Or.inr ⟨?_, rfl, rfl, rfl⟩⟩
      unfold y_ok
      first
        | (have f1 := h25; rw [x1, x2] at f1; rw [decide_eq_true (p := p + k.toInt64 * q < -1000000000000) (by first | exact f1 | exact Classical.not_not.mp f1), Bool.and_comm]; rfl)
        | (have f1 := h17; rw [x1, x2] at f1; rw [decide_eq_true f1]; rfl)

def y_od (k : Int32) (x y : Int64) : Int64 := if k &&& 1 = 0 then y else x
theorem h_on_s (m : Nat) (c : Nat → Int32) (hm : m < 3) : ∀ j, j < 4 → h_on (m + 1) c j = (if j = 0 then h_on m c 3 else h_on m c (j - 1)) := by
  intro j hj
  unfold h_on
  by_cases e : j = 0
  · rw [if_pos e, e, show (0 + 4 - (m + 1)) % 4 = (3 + 4 - m) % 4 by omega]
  · rw [if_neg e, show (j + 4 - (m + 1)) % 4 = (j - 1 + 4 - m) % 4 by omega]
theorem x_rot {h : Nat} {n st sp sd : Int32} {p q : Int64} {c : Nat → Int32} {I : pv_I} {L : pv_L} (i : Nat) (hi : i < 3) (hx : XHw h n st sp sd p q (h_on i c) I L) : XHw h n st sp sd p q (h_on (i + 1) c) (pv_u (pv_u (pv_u (pv_u I (h + 1) 3 (I (h + 1) 2)) (h + 1) 2 (I (h + 1) 1)) (h + 1) 1 (I (h + 1) 0)) (h + 1) 0 (I (h + 1) 3)) L := by
  obtain ⟨x1, x2, x3, x4, x5, x6, x7⟩ := hx
  have o : ∀ j, pv_u (pv_u (pv_u (pv_u I (h + 1) 3 (I (h + 1) 2)) (h + 1) 2 (I (h + 1) 1)) (h + 1) 1 (I (h + 1) 0)) (h + 1) 0 (I (h + 1) 3) h j = I h j := fun j => by rw [pv_u_o _ (by omega), pv_u_o _ (by omega), pv_u_o _ (by omega), pv_u_o _ (by omega)]
  refine ⟨x1, x2, (o 3).trans x3, (o 4).trans x4, (o 5).trans x5, (o 6).trans x6, fun j hj => ?_⟩
  rw [h_on_s i c hi j hj, pv_u_eq, pv_u_eq, pv_u_eq, pv_u_eq]
  by_cases j0 : j = 0
  · rw [if_pos j0, if_pos j0]; exact x7 3 (by decide)
  · rw [if_neg j0, if_neg j0]
    by_cases j1 : j = 1
    · rw [if_pos j1, j1]; exact x7 0 (by decide)
    · rw [if_neg j1]
      by_cases j2 : j = 2
      · rw [if_pos j2, j2]; exact x7 1 (by decide)
      · rw [if_neg j2]
        have j3 : j = 3 := by omega
        rw [if_pos j3, j3]; exact x7 2 (by decide)
set_option maxRecDepth 100000 in
set_option maxHeartbeats 4000000 in
theorem l_turn {G : pv_G} {d : Nat} {h m : Nat} {k n st sp sd : Int32} {p q : Int64} {c : Nat → Int32} {t : pv_T} {I0 : pv_I} {L0 : pv_L} {Rf : pv_R} (hh : hl_ok t Rf h) (hm : m < 4) (hk3 : k &&& 3 = Int32.ofNat m) : ∀ (x i : Nat) (I : pv_I) (L : pv_L) (l3 : Value), i + x = m → fH h I0 L0 I L → XHw h n st sp sd p q (h_on i c) I L →
    pv_V G mX4_turn d 0 0 (fun v t1 I1 L1 R1 => v = none ∧ t1 = t ∧ R1 = Rf ∧ fH h I0 L0 I1 L1 ∧ XHw h n st sp sd p q (h_on m c) I1 L1) 0 0 36 [.ref h, .int k, .int (Int32.ofNat i), l3] [] t I L Rf := by
  intro x
  induction x with
  | zero =>
    intro i I L l3 hi hf hx
    refine pv_iload_2 (pc := 36) dX4_turn_36 ?_
    refine pv_iload_1 (pc := 37) dX4_turn_37 ?_
    refine pv_iconst (pc := 38) (v := 3) dX4_turn_38 (by decide) ?_
    refine pv_iand (pc := 39) dX4_turn_39 ?_
    refine pv_topv2 (y := Int32.ofNat m) hk3 ?_
    refine pv_icmp_ge (pc := 40) (tgt := 99) dX4_turn_40 (by decide) (fun h40 => ?_) (fun h40 => absurd h40 (by rw [i_ltn (by omega) (by omega)]; omega))
    refine pv_vret (pc := 99) dX4_turn_99 rfl ?_
    rw [show i = m by omega] at hx; exact ⟨rfl, rfl, rfl, hf, hx⟩
  | succ x ih =>
    intro i I L l3 hi hf hx
    refine pv_iload_2 (pc := 36) dX4_turn_36 ?_
    refine pv_iload_1 (pc := 37) dX4_turn_37 ?_
    refine pv_iconst (pc := 38) (v := 3) dX4_turn_38 (by decide) ?_
    refine pv_iand (pc := 39) dX4_turn_39 ?_
    refine pv_topv2 (y := Int32.ofNat m) hk3 ?_
    refine pv_icmp_ge (pc := 40) (tgt := 99) dX4_turn_40 (by decide) (fun h40 => absurd h40 (not_not_intro (by rw [i_ltn (by omega) (by omega)]; omega))) (fun h40 => ?_)
    refine pv_aload_0 (pc := 43) dX4_turn_43 ?_
    refine pv_getR (pc := 44) dX4_turn_44 fg_X4_9_4 rfl hh.1 hh.2.2.1 hh.2.2.2.2 ?_
    refine pv_iconst (pc := 47) (v := 3) dX4_turn_47 (by decide) ?_
    refine pv_ialoadj (pc := 48) dX4_turn_48 hh.2.2.2.1 (j := 3) (by decide) (by unfold vp_in; decide) ?_
    refine pv_istore_3 (pc := 49) dX4_turn_49 (by decide) rfl ?_
    refine pv_aload_0 (pc := 50) dX4_turn_50 ?_
    refine pv_getR (pc := 51) dX4_turn_51 fg_X4_9_4 rfl hh.1 hh.2.2.1 hh.2.2.2.2 ?_
    refine pv_iconst (pc := 54) (v := 3) dX4_turn_54 (by decide) ?_
    refine pv_aload_0 (pc := 55) dX4_turn_55 ?_
    refine pv_getR (pc := 56) dX4_turn_56 fg_X4_9_4 rfl hh.1 hh.2.2.1 hh.2.2.2.2 ?_
    refine pv_iconst (pc := 59) (v := 2) dX4_turn_59 (by decide) ?_
    refine pv_ialoadj (pc := 60) dX4_turn_60 hh.2.2.2.1 (j := 2) (by decide) (by unfold vp_in; decide) ?_
    refine pv_iastorej (pc := 61) dX4_turn_61 (by have := hh.1; omega) hh.2.2.2.1 (j := 3) (by decide) (by unfold vp_in; decide) ?_
    refine pv_aload_0 (pc := 62) dX4_turn_62 ?_
    refine pv_getR (pc := 63) dX4_turn_63 fg_X4_9_4 rfl hh.1 hh.2.2.1 hh.2.2.2.2 ?_
    refine pv_iconst (pc := 66) (v := 2) dX4_turn_66 (by decide) ?_
    refine pv_aload_0 (pc := 67) dX4_turn_67 ?_
    refine pv_getR (pc := 68) dX4_turn_68 fg_X4_9_4 rfl hh.1 hh.2.2.1 hh.2.2.2.2 ?_
    refine pv_iconst (pc := 71) (v := 1) dX4_turn_71 (by decide) ?_
    refine pv_ialoadj (pc := 72) dX4_turn_72 hh.2.2.2.1 (j := 1) (by decide) (by unfold vp_in; decide) ?_
    refine pv_iastorej (pc := 73) dX4_turn_73 (by have := hh.1; omega) hh.2.2.2.1 (j := 2) (by decide) (by unfold vp_in; decide) ?_
    refine pv_aload_0 (pc := 74) dX4_turn_74 ?_
    refine pv_getR (pc := 75) dX4_turn_75 fg_X4_9_4 rfl hh.1 hh.2.2.1 hh.2.2.2.2 ?_
    refine pv_iconst (pc := 78) (v := 1) dX4_turn_78 (by decide) ?_
    refine pv_aload_0 (pc := 79) dX4_turn_79 ?_
    refine pv_getR (pc := 80) dX4_turn_80 fg_X4_9_4 rfl hh.1 hh.2.2.1 hh.2.2.2.2 ?_
    refine pv_iconst (pc := 83) (v := 0) dX4_turn_83 (by decide) ?_
    refine pv_ialoadj (pc := 84) dX4_turn_84 hh.2.2.2.1 (j := 0) (by decide) (by unfold vp_in; decide) ?_
    refine pv_iastorej (pc := 85) dX4_turn_85 (by have := hh.1; omega) hh.2.2.2.1 (j := 1) (by decide) (by unfold vp_in; decide) ?_
    refine pv_aload_0 (pc := 86) dX4_turn_86 ?_
    refine pv_getR (pc := 87) dX4_turn_87 fg_X4_9_4 rfl hh.1 hh.2.2.1 hh.2.2.2.2 ?_
    refine pv_iconst (pc := 90) (v := 0) dX4_turn_90 (by decide) ?_
    refine pv_iload_3 (pc := 91) dX4_turn_91 ?_
    refine pv_iastorej (pc := 92) dX4_turn_92 (by have := hh.1; omega) hh.2.2.2.1 (j := 0) (by decide) (by unfold vp_in; decide) ?_
    refine pv_iinc_2 (pc := 93) (v := _ + 1) dX4_turn_93 rfl (by decide) rfl ?_
    refine pv_goto (pc := 96) (tgt := 36) dX4_turn_96 (by decide) ?_
    rw [i_inc]
    have r1 : pv_u I (h + 1) 3 (I (h + 1) 2) (h + 1) 1 = I (h + 1) 1 := pv_u_o _ (by omega)
    rw [r1]
    have r2 : pv_u (pv_u I (h + 1) 3 (I (h + 1) 2)) (h + 1) 2 (I (h + 1) 1) (h + 1) 0 = I (h + 1) 0 := by rw [pv_u_o _ (by omega), pv_u_o _ (by omega)]
    rw [r2]
    exact ih (i + 1) _ _ _ (by omega) ((((hf.uI _ _ _ (Or.inr rfl)).uI _ _ _ (Or.inr rfl)).uI _ _ _ (Or.inr rfl)).uI _ _ _ (Or.inr rfl)) (x_rot i (by omega) hx)

set_option maxRecDepth 100000 in
set_option maxHeartbeats 4000000 in
theorem c_X4_turn {G : pv_G} {d : Nat} {k : Int32} {m : Nat} {h : Nat} {n st sp sd : Int32} {p q : Int64} {c : Nat → Int32} {t : pv_T} {I : pv_I} {L : pv_L} {Rf : pv_R} (hh : hl_ok t Rf h) (hx : XHw h n st sp sd p q c I L) (hm : m < 4) (hk3 : k &&& 3 = Int32.ofNat m) (hd : 2 ≤ d) : pv_Mt G mX4_turn d 0 0 [.ref h, .int k] t I L Rf (fun v t1 I1 L1 R1 => v = none ∧ t1 = t ∧ R1 = Rf ∧ fH h I L I1 L1 ∧ XHw h n st sp sd (y_od k (s_stepP 2 p q) p) (y_od k (s_stepQ 2 p q) q) (h_on m c) I1 L1) := by
  refine pv_mt mgX4_turn.2.2.2.2.2 [.ref h, .int k, .retAddr 0, .retAddr 0] rfl (Nat.le_of_ble_eq_true rfl) ?_
  obtain ⟨x1, x2, x3, x4, x5, x6, x7⟩ := id hx
  have h16 := hh.1
  refine pv_iload_1 (pc := 0) dX4_turn_0 ?_
  refine pv_iconst (pc := 1) (v := 1) dX4_turn_1 (by decide) ?_
  refine pv_iand (pc := 2) dX4_turn_2 ?_
  refine pv_if_eq (pc := 3) (tgt := 34) dX4_turn_3 (by decide) (fun h3 => ?_) (fun h3 => ?_)
  · refine pv_iconst (pc := 34) (v := 0) dX4_turn_34 (by decide) ?_
    refine pv_istore_2 (pc := 35) dX4_turn_35 (by decide) rfl ?_
    have hc0 : ∀ j, j < 4 → h_on 0 c j = c j := fun j hj => by unfold h_on; rw [show (j + 4 - 0) % 4 = j by omega]
    first
      | (have f3 := h3
         have f4 : k &&& 1 = 0 := (by first | exact f3 | exact Classical.not_not.mp f3)
         refine l_turn hh hm hk3 m 0 _ _ _ (by omega) fH.rf ⟨?_, ?_, x3, x4, x5, x6, fun j hj => (x7 j hj).trans (hc0 j hj).symm⟩
         · unfold y_od; rw [if_pos f4]; exact x1
         · unfold y_od; rw [if_pos f4]; exact x2)
      | (have f4 : ¬ k &&& 1 = 0 := h3
         refine l_turn hh hm hk3 m 0 _ _ _ (by omega) ((fH.rf.uL 1 _).uL 2 _) ⟨?_, ?_, x3, x4, x5, x6, fun j hj => (x7 j hj).trans (hc0 j hj).symm⟩
         · unfold y_od; rw [if_neg f4, pv_u_o _ (by omega), pv_u_eq, if_pos rfl, x1, x2]
         · unfold y_od; rw [if_neg f4, pv_u_eq, if_pos rfl, x1, x2])
  · refine pv_aload_0 (pc := 6) dX4_turn_6 ?_
    refine pv_iconst (pc := 7) (v := 2) dX4_turn_7 (by decide) ?_
    refine pv_aload_0 (pc := 8) dX4_turn_8 ?_
    refine pv_getL (pc := 9) dX4_turn_9 fg_X4_29_4 hh.1 hh.2.2.1 ?_
    refine pv_aload_0 (pc := 12) dX4_turn_12 ?_
    refine pv_getL (pc := 13) dX4_turn_13 fg_X4_15_4 hh.1 hh.2.2.1 ?_
    refine pv_callSN1 (pc := 16) dX4_turn_16 mgX11_stepP lsn_X4_66 (by omega) (c_X11_stepP ) rfl rfl (Nat.le_of_ble_eq_true rfl) ?_
    refine pv_iconst (pc := 19) (v := 2) dX4_turn_19 (by decide) ?_
    refine pv_aload_0 (pc := 20) dX4_turn_20 ?_
    refine pv_getL (pc := 21) dX4_turn_21 fg_X4_29_4 hh.1 hh.2.2.1 ?_
    refine pv_aload_0 (pc := 24) dX4_turn_24 ?_
    refine pv_getL (pc := 25) dX4_turn_25 fg_X4_15_4 hh.1 hh.2.2.1 ?_
    refine pv_callSN1 (pc := 28) dX4_turn_28 mgX11_stepQ lsn_X4_70 (by omega) (c_X11_stepQ (by omega)) rfl rfl (Nat.le_of_ble_eq_true rfl) ?_
    refine pv_callV0 (pc := 31) dX4_turn_31 mgX4_become lv_X4_41_4 hh.1 hh.2.2.1 (by omega) (c_X4_become hh.1 hh.2.2.1) rfl rfl (by decide) ?_
    refine pv_iconst (pc := 34) (v := 0) dX4_turn_34 (by decide) ?_
    refine pv_istore_2 (pc := 35) dX4_turn_35 (by decide) rfl ?_
    have hc0 : ∀ j, j < 4 → h_on 0 c j = c j := fun j hj => by unfold h_on; rw [show (j + 4 - 0) % 4 = j by omega]
    first
      | (have f3 := h3
         have f4 : k &&& 1 = 0 := (by first | exact f3 | exact Classical.not_not.mp f3)
         refine l_turn hh hm hk3 m 0 _ _ _ (by omega) fH.rf ⟨?_, ?_, x3, x4, x5, x6, fun j hj => (x7 j hj).trans (hc0 j hj).symm⟩
         · unfold y_od; rw [if_pos f4]; exact x1
         · unfold y_od; rw [if_pos f4]; exact x2)
      | (have f4 : ¬ k &&& 1 = 0 := h3
         refine l_turn hh hm hk3 m 0 _ _ _ (by omega) ((fH.rf.uL 1 _).uL 2 _) ⟨?_, ?_, x3, x4, x5, x6, fun j hj => (x7 j hj).trans (hc0 j hj).symm⟩
         · unfold y_od; rw [if_neg f4, pv_u_o _ (by omega), pv_u_eq, if_pos rfl, x1, x2]
         · unfold y_od; rw [if_neg f4, pv_u_eq, if_pos rfl, x1, x2])

