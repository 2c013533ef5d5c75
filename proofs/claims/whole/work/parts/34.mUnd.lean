/-! undone -/
theorem l64_1 : (1 : Int64).toInt = 1 := by decide
theorem l64_2 : (2 : Int64).toInt = 2 := by decide
theorem l64_3 : (3 : Int64).toInt = 3 := by decide
theorem l64_div {x y : Int64} (hx : 0 ≤ x.toInt) (hy : 0 < y.toInt) : (x / y).toInt = x.toInt / y.toInt := by
  rw [Jvm.Kit.i64_div (by omega), Int.tdiv_eq_ediv_of_nonneg hx]
theorem l64_add {x y : Int64} (h1 : -9223372036854775808 ≤ x.toInt + y.toInt) (h2 : x.toInt + y.toInt < 9223372036854775808) : (x + y).toInt = x.toInt + y.toInt := Jvm.Kit.i64_add h1 h2
theorem l64_sub {x y : Int64} (h1 : -9223372036854775808 ≤ x.toInt - y.toInt) (h2 : x.toInt - y.toInt < 9223372036854775808) : (x - y).toInt = x.toInt - y.toInt := Jvm.Kit.i64_sub h1 h2
theorem l64_mul {x y : Int64} (h1 : -9223372036854775808 ≤ x.toInt * y.toInt) (h2 : x.toInt * y.toInt < 9223372036854775808) : (x * y).toInt = x.toInt * y.toInt := Jvm.Kit.i64_mul h1 h2
theorem l64_lt {a b : Int64} : a < b ↔ a.toInt < b.toInt := Int64.lt_iff_toInt_lt
theorem l64_le {a b : Int64} : a ≤ b ↔ a.toInt ≤ b.toInt := Int64.le_iff_toInt_le
theorem l64_n0 {x : Int64} : ¬ x = 0 ↔ x.toInt ≠ 0 := by rw [← Int64.toInt_inj, l64_0]
theorem i_divs {a b : Int} (hb : 0 < b) : a / b * b ≤ a ∧ a < a / b * b + b := by
  have h1 := Int.emod_nonneg a (by omega : b ≠ 0)
  have h2 := Int.emod_lt_of_pos a hb
  have h3 := Int.ediv_mul_add_emod a b
  omega
/-- one run of alike steps: how many, and where it leads -/
def u_k (x y : Int64) : Int64 := if x < 0 then (-x + y - 1) / y else if x < y ∧ y ≤ 2 * x then 3 * (x / (y - x)) else 1
def u_x (x y : Int64) : Int64 := if x < 0 then x + (-x + y - 1) / y * y else if x < y ∧ y ≤ 2 * x then x - x / (y - x) * (y - x) else -y
def u_y (x y : Int64) : Int64 := if x < 0 then y else if x < y ∧ y ≤ 2 * x then y - x / (y - x) * (y - x) else if -y = 0 then 1 else x
def u_s (x y l : Int64) : Int32 := if x < 0 then 0 else if x < y ∧ y ≤ 2 * x then (if l % 3 = 0 then 2 else 0) else 2
def u_cnt : Nat → Int64 → Int64 → Int64
  | 0, _, _ => 0
  | m + 1, x, y => if x = 0 then 0 else u_k x y + u_cnt m (u_x x y) (u_y x y)
def u_at : Nat → Int64 → Int64 → Int64 → Int32 → Int32
  | 0, _, _, _, w => w
  | m + 1, x, y, l, w => if x = 0 then w else u_at m (u_x x y) (u_y x y) (l - u_k x y) (if 0 ≤ l ∧ l < u_k x y then u_s x y l else w)
def u_ok (x y : Int64) : Prop := 0 ≤ y.toInt ∧ y.toInt ≤ 1000000000000 ∧ -1000000000000 ≤ x.toInt ∧ x.toInt ≤ 1000000000000 ∧ (x.toInt < 0 → 0 < y.toInt)
def u_m (x y : Int64) : Nat := (if x.toInt < 0 then 2 * y.toInt + 1 else if x.toInt < y.toInt then 2 * y.toInt else 2 * x.toInt + 2).toNat
/-- the three runs in whole numbers -/
theorem u_A {x y : Int64} (h : u_ok x y) (hx : x < 0) : 0 < y.toInt ∧ ((-x + y - 1) / y).toInt = (-x.toInt + y.toInt - 1) / y.toInt ∧ (u_k x y).toInt = (-x.toInt + y.toInt - 1) / y.toInt ∧ (u_x x y).toInt = x.toInt + (-x.toInt + y.toInt - 1) / y.toInt * y.toInt ∧ u_y x y = y := by
  obtain ⟨h1, h2, h3, h4, h5⟩ := h
  have hx1 := l64_lt.mp hx
  rw [l64_0] at hx1
  have h6 := h5 hx1
  have e1 : (-x).toInt = -x.toInt := l64_neg (by omega)
  have e2 : (-x + y).toInt = -x.toInt + y.toInt := by rw [l64_add (by omega) (by omega), e1]
  have e3 : (-x + y - 1).toInt = -x.toInt + y.toInt - 1 := by rw [l64_sub (by rw [l64_1]; omega) (by rw [l64_1]; omega), e2, l64_1]
  have e4 : ((-x + y - 1) / y).toInt = (-x.toInt + y.toInt - 1) / y.toInt := by rw [l64_div (by omega) h6, e3]
  have q := i_divs (a := -x.toInt + y.toInt - 1) h6
  refine ⟨h6, e4, by rw [u_k, if_pos hx, e4], ?_, by rw [u_y, if_pos hx]⟩
  rw [u_x, if_pos hx]
  have e5 : ((-x + y - 1) / y * y).toInt = (-x.toInt + y.toInt - 1) / y.toInt * y.toInt := by rw [l64_mul (by rw [e4]; omega) (by rw [e4]; omega), e4]
  rw [l64_add (by rw [e5]; omega) (by rw [e5]; omega), e5]
theorem u_2 {x y : Int64} (h : u_ok x y) (hx : ¬ x < 0) : (2 * x).toInt = 2 * x.toInt := by
  obtain ⟨h1, h2, h3, h4, h5⟩ := h
  rw [l64_mul (by rw [l64_2]; omega) (by rw [l64_2]; omega), l64_2]
theorem u_B {x y : Int64} (h : u_ok x y) (hx : ¬ x < 0) (h0 : ¬ x = 0) (hc : x < y ∧ y ≤ 2 * x) : 0 < x.toInt ∧ x.toInt < y.toInt ∧ y.toInt ≤ 2 * x.toInt ∧ (y - x).toInt = y.toInt - x.toInt ∧ (x / (y - x)).toInt = x.toInt / (y.toInt - x.toInt) ∧ 1 ≤ x.toInt / (y.toInt - x.toInt) ∧ x.toInt / (y.toInt - x.toInt) ≤ x.toInt ∧ (u_k x y).toInt = 3 * (x.toInt / (y.toInt - x.toInt)) ∧
    (u_x x y).toInt = x.toInt - x.toInt / (y.toInt - x.toInt) * (y.toInt - x.toInt) ∧ (u_y x y).toInt = y.toInt - x.toInt / (y.toInt - x.toInt) * (y.toInt - x.toInt) := by
  have h' := h
  obtain ⟨h1, h2, h3, h4, h5⟩ := h
  have hx1 : ¬ x.toInt < 0 := fun q => hx (l64_lt.mpr (by rw [l64_0]; exact q))
  have h01 := l64_n0.mp h0
  have c1 := l64_lt.mp hc.1
  have c2 := l64_le.mp hc.2
  rw [u_2 h' hx] at c2
  have e1 : (y - x).toInt = y.toInt - x.toInt := l64_sub (by omega) (by omega)
  have e2 : (x / (y - x)).toInt = x.toInt / (y.toInt - x.toInt) := by rw [l64_div (by omega) (by omega), e1]
  have q := i_divs (a := x.toInt) (b := y.toInt - x.toInt) (by omega)
  have hd : 0 < y.toInt - x.toInt := by omega
  have e3 : 1 ≤ x.toInt / (y.toInt - x.toInt) := (Int.le_ediv_iff_mul_le hd).mpr (by omega)
  have e4 : x.toInt / (y.toInt - x.toInt) ≤ x.toInt := Int.ediv_le_self _ (by omega)
  have e5 : (x / (y - x) * (y - x)).toInt = x.toInt / (y.toInt - x.toInt) * (y.toInt - x.toInt) := by rw [l64_mul (by rw [e2, e1]; omega) (by rw [e2, e1]; omega), e2, e1]
  have q0 : 0 ≤ x.toInt / (y.toInt - x.toInt) * (y.toInt - x.toInt) := Int.mul_nonneg (by omega) (by omega)
  refine ⟨by omega, c1, c2, e1, e2, e3, e4, ?_, ?_, ?_⟩
  · rw [u_k, if_neg hx, if_pos hc, l64_mul (by rw [l64_3, e2]; omega) (by rw [l64_3, e2]; omega), l64_3, e2]
  · rw [u_x, if_neg hx, if_pos hc, l64_sub (by rw [e5]; omega) (by rw [e5]; omega), e5]
  · rw [u_y, if_neg hx, if_pos hc, l64_sub (by rw [e5]; omega) (by rw [e5]; omega), e5]
theorem u_C {x y : Int64} (h : u_ok x y) (hx : ¬ x < 0) (h0 : ¬ x = 0) (hc : ¬ (x < y ∧ y ≤ 2 * x)) : 0 < x.toInt ∧ (x.toInt < y.toInt → 2 * x.toInt < y.toInt) ∧ u_k x y = 1 ∧ (u_x x y).toInt = -y.toInt ∧ (y.toInt = 0 → u_y x y = 1) ∧ (y.toInt ≠ 0 → u_y x y = x) := by
  have h' := h
  obtain ⟨h1, h2, h3, h4, h5⟩ := h
  have hx1 : ¬ x.toInt < 0 := fun q => hx (l64_lt.mpr (by rw [l64_0]; exact q))
  have h01 := l64_n0.mp h0
  have e1 : (-y).toInt = -y.toInt := l64_neg (by omega)
  refine ⟨by omega, fun q => ?_, by rw [u_k, if_neg hx, if_neg hc], by rw [u_x, if_neg hx, if_neg hc, e1], fun q => ?_, fun q => ?_⟩
  · have : ¬ y.toInt ≤ 2 * x.toInt := fun r => hc ⟨l64_lt.mpr q, l64_le.mpr (by rw [u_2 h' hx]; exact r)⟩
    omega
  · rw [u_y, if_neg hx, if_neg hc, if_pos (by rw [← Int64.toInt_inj, e1, q, l64_0]; rfl)]
  · rw [u_y, if_neg hx, if_neg hc, if_neg (fun r => q (by have := congrArg Int64.toInt r; rw [e1, l64_0] at this; omega))]
theorem u_next {x y : Int64} (h : u_ok x y) (h0 : ¬ x = 0) : u_ok (u_x x y) (u_y x y) ∧ u_m (u_x x y) (u_y x y) < u_m x y := by
  have h01 := l64_n0.mp h0
  obtain ⟨h1, h2, h3, h4, h5⟩ := id h
  unfold u_ok u_m
  by_cases hx : x < 0
  · obtain ⟨a1, a2, a3, a4, a5⟩ := u_A h hx
    have q := i_divs (a := -x.toInt + y.toInt - 1) a1
    have hx1 := l64_lt.mp hx
    rw [l64_0] at hx1
    rw [a4, a5]
    generalize (-x.toInt + y.toInt - 1) / y.toInt * y.toInt = z at q
    refine ⟨⟨by omega, by omega, by omega, by omega, by omega⟩, ?_⟩
    rw [if_neg (by omega), if_pos (by omega), if_pos (by omega)]
    omega
  · by_cases hc : x < y ∧ y ≤ 2 * x
    · obtain ⟨a1, a2, a3, a4, a5, a6, a7, a8, a9, a10⟩ := u_B h hx h0 hc
      have q := i_divs (a := x.toInt) (b := y.toInt - x.toInt) (by omega)
      rw [a9, a10]
      generalize x.toInt / (y.toInt - x.toInt) * (y.toInt - x.toInt) = z at q
      refine ⟨⟨by omega, by omega, by omega, by omega, by omega⟩, ?_⟩
      rw [if_neg (by omega), if_pos (by omega), if_neg (by omega), if_pos (by omega)]
      omega
    · obtain ⟨a1, a2, a3, a4, a5, a6⟩ := u_C h hx h0 hc
      by_cases hy : y.toInt = 0
      · rw [a4, a5 hy, l64_1]
        refine ⟨⟨by omega, by omega, by omega, by omega, by omega⟩, ?_⟩
        rw [if_neg (by omega), if_pos (by omega), if_neg (by omega), if_neg (by omega)]
        omega
      · rw [a4, a6 hy]
        refine ⟨⟨by omega, by omega, by omega, by omega, by omega⟩, ?_⟩
        rw [if_pos (by omega), if_neg (by omega)]
        split <;> omega
theorem pv_u_u {α : Type} (f : Nat → Nat → α) (a j : Nat) (v w : α) : pv_u (pv_u f a j v) a j w = pv_u f a j w := by
  funext x y
  simp only [pv_u_app]
  split <;> rfl
theorem pv_memIL {G : pv_G} {M : pv_Mth} {d mc ms bc bs pc : Nat} {Q : pv_Q} {ls st : List Value} {t : pv_T} {I I1 : pv_I} {L L1 : pv_L} {Rf : pv_R} (h : I1 = I) (g : L1 = L) (k : pv_V G M d mc ms Q bc bs pc ls st t I L Rf) : pv_V G M d mc ms Q bc bs pc ls st t I1 L1 Rf := g ▸ h ▸ k

set_option maxRecDepth 100000 in
set_option maxHeartbeats 4000000 in
theorem c_X12_goes {G : pv_G} {d : Nat} {n l : Int64} {s w : Int32} {t : pv_T} {I : pv_I} {L : pv_L} {Rf : pv_R} (hT : sh_ok t) : pv_Mt G mX12_goes d 0 0 [.ref 61, .long n, .int s] t (pv_u I 61 36 w) (pv_u L 61 35 l) Rf (pv_is (some (.int (pv_b (decide (0 ≤ l) && decide (l < n))))) t (pv_u I 61 36 (if 0 ≤ l ∧ l < n then s else w)) (pv_u L 61 35 (l - n)) Rf) := by
  refine pv_mt mgX12_goes.2.2.2.2.2 [.ref 61, .long n, .retAddr 0, .int s, .retAddr 0] rfl (Nat.le_of_ble_eq_true rfl) ?_
  by_cases g1 : 0 ≤ l
  · by_cases g2 : l < n
    · skip
      refine pv_aload_0 (pc := 0) dX12_goes_0 ?_
      refine pv_getL (pc := 1) dX12_goes_1 fg_X12_260_12 (by decide) (sx_61 hT) ?_
      refine pv_lconst (pc := 4) (v := 0) dX12_goes_4 (by decide) ?_
      refine pv_lcmp_lt (pc := 5) (tgt := 23) dX12_goes_5 dX12_goes_6 (by decide) (fun h5 => absurd h5 (by have q : 0 ≤ l := g1; show ¬ l < 0; rw [l64_lt]; rw [l64_le] at q; omega)) (fun h5 => ?_)
      refine pv_aload_0 (pc := 9) dX12_goes_9 ?_
      refine pv_getL (pc := 10) dX12_goes_10 fg_X12_260_12 (by decide) (sx_61 hT) ?_
      refine pv_lload_1 (pc := 13) dX12_goes_13 ?_
      refine pv_lcmp_ge (pc := 14) (tgt := 23) dX12_goes_14 dX12_goes_15 (by decide) (fun h14 => absurd h14 (not_not_intro g2)) (fun h14 => ?_)
      refine pv_aload_0 (pc := 18) dX12_goes_18 ?_
      refine pv_iload_3 (pc := 19) dX12_goes_19 ?_
      refine pv_putI (pc := 20) dX12_goes_20 fl_X12_263_12 (fun q => by cases q) ⟨rfl, rfl, rfl⟩ (by decide) (sx_61 hT) ?_
      refine pv_aload_0 (pc := 23) dX12_goes_23 ?_
      refine pv_getL (pc := 24) dX12_goes_24 fg_X12_260_12 (by decide) (sx_61 hT) ?_
      refine pv_lconst (pc := 27) (v := 0) dX12_goes_27 (by decide) ?_
      refine pv_lcmp_lt (pc := 28) (tgt := 45) dX12_goes_28 dX12_goes_29 (by decide) (fun h28 => absurd h28 (by have q : 0 ≤ l := g1; show ¬ l < 0; rw [l64_lt]; rw [l64_le] at q; omega)) (fun h28 => ?_)
      refine pv_aload_0 (pc := 32) dX12_goes_32 ?_
      refine pv_getL (pc := 33) dX12_goes_33 fg_X12_260_12 (by decide) (sx_61 hT) ?_
      refine pv_lload_1 (pc := 36) dX12_goes_36 ?_
      refine pv_lcmp_ge (pc := 37) (tgt := 45) dX12_goes_37 dX12_goes_38 (by decide) (fun h37 => absurd h37 (not_not_intro g2)) (fun h37 => ?_)
      refine pv_iconst (pc := 41) (v := 1) dX12_goes_41 (by decide) ?_
      refine pv_goto (pc := 42) (tgt := 46) dX12_goes_42 (by decide) ?_
      refine pv_istore_4 (pc := 46) dX12_goes_46 (by decide) rfl ?_
      refine pv_aload_0 (pc := 48) dX12_goes_48 ?_
      refine pv_dup (pc := 49) dX12_goes_49 rfl ?_
      refine pv_getL (pc := 50) dX12_goes_50 fg_X12_260_12 (by decide) (sx_61 hT) ?_
      refine pv_lload_1 (pc := 53) dX12_goes_53 ?_
      refine pv_lsub (pc := 54) dX12_goes_54 ?_
      refine pv_putL (pc := 55) dX12_goes_55 fl_X12_260_12 (fun q => by cases q) (by decide) (sx_61 hT) ?_
      refine pv_iload_4 (pc := 58) dX12_goes_58 ?_
      refine pv_iret (pc := 60) dX12_goes_60 rfl rfl ?_
      refine ⟨congrArg (fun z => some (Value.int z)) ?_, rfl, ?_, ?_, rfl⟩
      · simp only [g1, g2, decide_true, Bool.and_self, pv_b]; rfl
      · rw [if_pos ⟨g1, g2⟩]; exact pv_u_u I 61 36 w s
      · exact pv_u_u L 61 35 l (l - n)
    · skip
      refine pv_aload_0 (pc := 0) dX12_goes_0 ?_
      refine pv_getL (pc := 1) dX12_goes_1 fg_X12_260_12 (by decide) (sx_61 hT) ?_
      refine pv_lconst (pc := 4) (v := 0) dX12_goes_4 (by decide) ?_
      refine pv_lcmp_lt (pc := 5) (tgt := 23) dX12_goes_5 dX12_goes_6 (by decide) (fun h5 => absurd h5 (by have q : 0 ≤ l := g1; show ¬ l < 0; rw [l64_lt]; rw [l64_le] at q; omega)) (fun h5 => ?_)
      refine pv_aload_0 (pc := 9) dX12_goes_9 ?_
      refine pv_getL (pc := 10) dX12_goes_10 fg_X12_260_12 (by decide) (sx_61 hT) ?_
      refine pv_lload_1 (pc := 13) dX12_goes_13 ?_
      refine pv_lcmp_ge (pc := 14) (tgt := 23) dX12_goes_14 dX12_goes_15 (by decide) (fun h14 => ?_) (fun h14 => absurd h14 g2)
      refine pv_aload_0 (pc := 23) dX12_goes_23 ?_
      refine pv_getL (pc := 24) dX12_goes_24 fg_X12_260_12 (by decide) (sx_61 hT) ?_
      refine pv_lconst (pc := 27) (v := 0) dX12_goes_27 (by decide) ?_
      refine pv_lcmp_lt (pc := 28) (tgt := 45) dX12_goes_28 dX12_goes_29 (by decide) (fun h28 => absurd h28 (by have q : 0 ≤ l := g1; show ¬ l < 0; rw [l64_lt]; rw [l64_le] at q; omega)) (fun h28 => ?_)
      refine pv_aload_0 (pc := 32) dX12_goes_32 ?_
      refine pv_getL (pc := 33) dX12_goes_33 fg_X12_260_12 (by decide) (sx_61 hT) ?_
      refine pv_lload_1 (pc := 36) dX12_goes_36 ?_
      refine pv_lcmp_ge (pc := 37) (tgt := 45) dX12_goes_37 dX12_goes_38 (by decide) (fun h37 => ?_) (fun h37 => absurd h37 g2)
      refine pv_iconst (pc := 45) (v := 0) dX12_goes_45 (by decide) ?_
      refine pv_istore_4 (pc := 46) dX12_goes_46 (by decide) rfl ?_
      refine pv_aload_0 (pc := 48) dX12_goes_48 ?_
      refine pv_dup (pc := 49) dX12_goes_49 rfl ?_
      refine pv_getL (pc := 50) dX12_goes_50 fg_X12_260_12 (by decide) (sx_61 hT) ?_
      refine pv_lload_1 (pc := 53) dX12_goes_53 ?_
      refine pv_lsub (pc := 54) dX12_goes_54 ?_
      refine pv_putL (pc := 55) dX12_goes_55 fl_X12_260_12 (fun q => by cases q) (by decide) (sx_61 hT) ?_
      refine pv_iload_4 (pc := 58) dX12_goes_58 ?_
      refine pv_iret (pc := 60) dX12_goes_60 rfl rfl ?_
      refine ⟨congrArg (fun z => some (Value.int z)) ?_, rfl, ?_, ?_, rfl⟩
      · first
        | (have f := g1; simp only [f, decide_false, Bool.false_and, pv_b]; rfl)
        | (have f := g2; simp only [f, decide_false, Bool.and_false, pv_b]; rfl)
      · rw [if_neg (fun q => g2 q.2)]
      · exact pv_u_u L 61 35 l (l - n)
  · skip
    refine pv_aload_0 (pc := 0) dX12_goes_0 ?_
    refine pv_getL (pc := 1) dX12_goes_1 fg_X12_260_12 (by decide) (sx_61 hT) ?_
    refine pv_lconst (pc := 4) (v := 0) dX12_goes_4 (by decide) ?_
    refine pv_lcmp_lt (pc := 5) (tgt := 23) dX12_goes_5 dX12_goes_6 (by decide) (fun h5 => ?_) (fun h5 => absurd h5 (not_not_intro (by show l < 0; rw [l64_lt]; rw [l64_le] at g1; omega)))
    refine pv_aload_0 (pc := 23) dX12_goes_23 ?_
    refine pv_getL (pc := 24) dX12_goes_24 fg_X12_260_12 (by decide) (sx_61 hT) ?_
    refine pv_lconst (pc := 27) (v := 0) dX12_goes_27 (by decide) ?_
    refine pv_lcmp_lt (pc := 28) (tgt := 45) dX12_goes_28 dX12_goes_29 (by decide) (fun h28 => ?_) (fun h28 => absurd h28 (not_not_intro (by show l < 0; rw [l64_lt]; rw [l64_le] at g1; omega)))
    refine pv_iconst (pc := 45) (v := 0) dX12_goes_45 (by decide) ?_
    refine pv_istore_4 (pc := 46) dX12_goes_46 (by decide) rfl ?_
    refine pv_aload_0 (pc := 48) dX12_goes_48 ?_
    refine pv_dup (pc := 49) dX12_goes_49 rfl ?_
    refine pv_getL (pc := 50) dX12_goes_50 fg_X12_260_12 (by decide) (sx_61 hT) ?_
    refine pv_lload_1 (pc := 53) dX12_goes_53 ?_
    refine pv_lsub (pc := 54) dX12_goes_54 ?_
    refine pv_putL (pc := 55) dX12_goes_55 fl_X12_260_12 (fun q => by cases q) (by decide) (sx_61 hT) ?_
    refine pv_iload_4 (pc := 58) dX12_goes_58 ?_
    refine pv_iret (pc := 60) dX12_goes_60 rfl rfl ?_
    refine ⟨congrArg (fun z => some (Value.int z)) ?_, rfl, ?_, ?_, rfl⟩
    · first
      | (have f := g1; simp only [f, decide_false, Bool.false_and, pv_b]; rfl)
      | (have f := g2; simp only [f, decide_false, Bool.and_false, pv_b]; rfl)
    · rw [if_neg (fun q => g1 q.1)]
    · exact pv_u_u L 61 35 l (l - n)

set_option maxRecDepth 100000 in
set_option maxHeartbeats 4000000 in
theorem l_ge {a : Int64} (h : ¬ a < 0) : 0 ≤ a := by rw [l64_lt] at h; rw [l64_le]; omega
theorem l_gn {a : Int64} (h : 0 ≤ a) : ¬ a < 0 := by rw [l64_le] at h; rw [l64_lt]; omega
theorem l_gt {a b : Int64} (h : a < b) : ¬ b ≤ a := by rw [l64_lt] at h; rw [l64_le]; omega
theorem l_ngt {a b : Int64} (h : ¬ a < b) : b ≤ a := by rw [l64_lt] at h; rw [l64_le]; omega
theorem l_nle {a b : Int64} (h : ¬ a ≤ b) : b < a := by rw [l64_le] at h; rw [l64_lt]; omega
set_option maxRecDepth 100000 in
set_option maxHeartbeats 4000000 in
theorem l_und {G : pv_G} {d : Nat} {Q : pv_Q} {R : Int64} {A : Int32} {a b i : Int64} {t : pv_T} {I : pv_I} {L : pv_L} {Rf : pv_R} (hT : sh_ok t) (hd : 1 ≤ d) (hQ : ∀ l, Q (some (.long R)) t (pv_u I 61 36 A) (pv_u L 61 35 l) Rf) : ∀ (m : Nat) (x y n l : Int64) (w : Int32) (l13 l14 l15 l16 : Value), u_ok x y → u_m x y < m → n + u_cnt m x y = R → u_at m x y l w = A →
    pv_V G mX12_undone d 0 0 Q 0 0 20 [.ref 61, .long a, .retAddr 0, .long b, .retAddr 0, .long i, .retAddr 0, .long x, .retAddr 0, .long y, .retAddr 0, .long n, .retAddr 0, l13, l14, l15, l16] [] t (pv_u I 61 36 w) (pv_u L 61 35 l) Rf := by
  intro m
  induction m with
  | zero => intro x y n l w l13 l14 l15 l16 hok hm; exact absurd hm (Nat.not_lt_zero _)
  | succ m ih =>
    intro x y n l w l13 l14 l15 l16 hok hm hr ha
    refine pv_lload_7 (pc := 20) dX12_undone_20 ?_
    refine pv_lconst (pc := 22) (v := 0) dX12_undone_22 (by decide) ?_
    refine pv_lcmp_eq (pc := 23) (tgt := 242) dX12_undone_23 dX12_undone_24 (by decide) (fun h23 => ?_) (fun h23 => ?_)
    · refine pv_lload_11 (pc := 242) dX12_undone_242 ?_
      refine pv_lret (pc := 244) dX12_undone_244 rfl ?_
      have f := h23
      rw [u_cnt, if_pos f, Int64.add_zero] at hr
      rw [u_at, if_pos f] at ha
      subst hr; subst ha
      exact hQ l
    · refine pv_lload_7 (pc := 27) dX12_undone_27 ?_
      refine pv_lconst (pc := 29) (v := 0) dX12_undone_29 (by decide) ?_
      refine pv_lcmp_ge (pc := 30) (tgt := 75) dX12_undone_30 dX12_undone_31 (by decide) (fun h30 => ?_) (fun h30 => ?_)
      · refine pv_lload_9 (pc := 75) dX12_undone_75 ?_
        refine pv_lload_7 (pc := 77) dX12_undone_77 ?_
        refine pv_lcmp_le (pc := 79) (tgt := 203) dX12_undone_79 dX12_undone_80 (by decide) (fun h79 => ?_) (fun h79 => ?_)
        · refine pv_aload_0 (pc := 203) dX12_undone_203 ?_
          refine pv_lconst (pc := 204) (v := 1) dX12_undone_204 (by decide) ?_
          refine pv_iconst (pc := 205) (v := 2) dX12_undone_205 (by decide) ?_
          refine pv_callV1 (pc := 206) dX12_undone_206 mgX12_goes lv_X12_266_12 (by decide) (sx_61 hT) (by omega) (c_X12_goes hT) rfl rfl (by decide) ?_
          refine pv_pop (pc := 209) dX12_undone_209 rfl ?_
          refine pv_lload_11 (pc := 210) dX12_undone_210 ?_
          refine pv_lconst (pc := 212) (v := 1) dX12_undone_212 (by decide) ?_
          refine pv_ladd (pc := 213) dX12_undone_213 ?_
          refine pv_lstore_11 (pc := 214) dX12_undone_214 (by decide) rfl ?_
          refine pv_lload_7 (pc := 216) dX12_undone_216 ?_
          refine pv_lstore_13 (pc := 218) dX12_undone_218 (by decide) rfl ?_
          refine pv_lload_9 (pc := 220) dX12_undone_220 ?_
          refine pv_lneg (pc := 222) dX12_undone_222 ?_
          refine pv_lstore_7 (pc := 223) dX12_undone_223 (by decide) rfl ?_
          refine pv_lload_13 (pc := 225) dX12_undone_225 ?_
          refine pv_lstore_9 (pc := 227) dX12_undone_227 (by decide) rfl ?_
          refine pv_lload_7 (pc := 229) dX12_undone_229 ?_
          refine pv_lconst (pc := 231) (v := 0) dX12_undone_231 (by decide) ?_
          refine pv_lcmp_ne (pc := 232) (tgt := 239) dX12_undone_232 dX12_undone_233 (by decide) (fun h232 => ?_) (fun h232 => ?_)
          · refine pv_goto (pc := 239) (tgt := 20) dX12_undone_239 (by decide) ?_
            first
              | (have hc : ¬ (x < y ∧ y ≤ 2 * x) := fun q => h79 q.1
                 have e1 : u_k x y = 1 := by rw [u_k, if_neg h30, if_neg hc]
                 have e2 : u_x x y = -y := by rw [u_x, if_neg h30, if_neg hc]
                 have e3 : u_y x y = 1 := by rw [u_y, if_neg h30, if_neg hc, if_pos h232]
                 have hn := u_next hok h23
                 rw [e2, e3] at hn
                 rw [u_cnt, if_neg h23, e1, e2, e3, ← Int64.add_assoc] at hr
                 rw [u_at, if_neg h23, e1, e2, e3, show u_s x y l = 2 by rw [u_s, if_neg h30, if_neg hc]] at ha
                 skip
                 exact ih _ _ _ _ _ _ _ _ _ hn.1 (by omega) hr ha)
              | (have hc : ¬ (x < y ∧ y ≤ 2 * x) := fun q => h79 q.1
                 have e1 : u_k x y = 1 := by rw [u_k, if_neg h30, if_neg hc]
                 have e2 : u_x x y = -y := by rw [u_x, if_neg h30, if_neg hc]
                 have e3 : u_y x y = x := by rw [u_y, if_neg h30, if_neg hc, if_neg h232]
                 have hn := u_next hok h23
                 rw [e2, e3] at hn
                 rw [u_cnt, if_neg h23, e1, e2, e3, ← Int64.add_assoc] at hr
                 rw [u_at, if_neg h23, e1, e2, e3, show u_s x y l = 2 by rw [u_s, if_neg h30, if_neg hc]] at ha
                 skip
                 exact ih _ _ _ _ _ _ _ _ _ hn.1 (by omega) hr ha)
          · refine pv_lconst (pc := 236) (v := 1) dX12_undone_236 (by decide) ?_
            refine pv_lstore_9 (pc := 237) dX12_undone_237 (by decide) rfl ?_
            refine pv_goto (pc := 239) (tgt := 20) dX12_undone_239 (by decide) ?_
            first
              | (have hc : ¬ (x < y ∧ y ≤ 2 * x) := fun q => h79 q.1
                 have e1 : u_k x y = 1 := by rw [u_k, if_neg h30, if_neg hc]
                 have e2 : u_x x y = -y := by rw [u_x, if_neg h30, if_neg hc]
                 have e3 : u_y x y = 1 := by rw [u_y, if_neg h30, if_neg hc, if_pos h232]
                 have hn := u_next hok h23
                 rw [e2, e3] at hn
                 rw [u_cnt, if_neg h23, e1, e2, e3, ← Int64.add_assoc] at hr
                 rw [u_at, if_neg h23, e1, e2, e3, show u_s x y l = 2 by rw [u_s, if_neg h30, if_neg hc]] at ha
                 skip
                 exact ih _ _ _ _ _ _ _ _ _ hn.1 (by omega) hr ha)
              | (have hc : ¬ (x < y ∧ y ≤ 2 * x) := fun q => h79 q.1
                 have e1 : u_k x y = 1 := by rw [u_k, if_neg h30, if_neg hc]
                 have e2 : u_x x y = -y := by rw [u_x, if_neg h30, if_neg hc]
                 have e3 : u_y x y = x := by rw [u_y, if_neg h30, if_neg hc, if_neg h232]
                 have hn := u_next hok h23
                 rw [e2, e3] at hn
                 rw [u_cnt, if_neg h23, e1, e2, e3, ← Int64.add_assoc] at hr
                 rw [u_at, if_neg h23, e1, e2, e3, show u_s x y l = 2 by rw [u_s, if_neg h30, if_neg hc]] at ha
                 skip
                 exact ih _ _ _ _ _ _ _ _ _ hn.1 (by omega) hr ha)
        · refine pv_lload_9 (pc := 83) dX12_undone_83 ?_
          refine pv_ldc2 (pc := 85) dX12_undone_85 k_X12_270 ?_
          refine pv_lload_7 (pc := 88) dX12_undone_88 ?_
          refine pv_lmul (pc := 90) dX12_undone_90 ?_
          refine pv_lcmp_gt (pc := 91) (tgt := 203) dX12_undone_91 dX12_undone_92 (by decide) (fun h91 => ?_) (fun h91 => ?_)
          · refine pv_aload_0 (pc := 203) dX12_undone_203 ?_
            refine pv_lconst (pc := 204) (v := 1) dX12_undone_204 (by decide) ?_
            refine pv_iconst (pc := 205) (v := 2) dX12_undone_205 (by decide) ?_
            refine pv_callV1 (pc := 206) dX12_undone_206 mgX12_goes lv_X12_266_12 (by decide) (sx_61 hT) (by omega) (c_X12_goes hT) rfl rfl (by decide) ?_
            refine pv_pop (pc := 209) dX12_undone_209 rfl ?_
            refine pv_lload_11 (pc := 210) dX12_undone_210 ?_
            refine pv_lconst (pc := 212) (v := 1) dX12_undone_212 (by decide) ?_
            refine pv_ladd (pc := 213) dX12_undone_213 ?_
            refine pv_lstore_11 (pc := 214) dX12_undone_214 (by decide) rfl ?_
            refine pv_lload_7 (pc := 216) dX12_undone_216 ?_
            refine pv_lstore_13 (pc := 218) dX12_undone_218 (by decide) rfl ?_
            refine pv_lload_9 (pc := 220) dX12_undone_220 ?_
            refine pv_lneg (pc := 222) dX12_undone_222 ?_
            refine pv_lstore_7 (pc := 223) dX12_undone_223 (by decide) rfl ?_
            refine pv_lload_13 (pc := 225) dX12_undone_225 ?_
            refine pv_lstore_9 (pc := 227) dX12_undone_227 (by decide) rfl ?_
            refine pv_lload_7 (pc := 229) dX12_undone_229 ?_
            refine pv_lconst (pc := 231) (v := 0) dX12_undone_231 (by decide) ?_
            refine pv_lcmp_ne (pc := 232) (tgt := 239) dX12_undone_232 dX12_undone_233 (by decide) (fun h232 => ?_) (fun h232 => ?_)
            · refine pv_goto (pc := 239) (tgt := 20) dX12_undone_239 (by decide) ?_
              first
                | (have hc : ¬ (x < y ∧ y ≤ 2 * x) := fun q => l_gt h91 q.2
                   have e1 : u_k x y = 1 := by rw [u_k, if_neg h30, if_neg hc]
                   have e2 : u_x x y = -y := by rw [u_x, if_neg h30, if_neg hc]
                   have e3 : u_y x y = 1 := by rw [u_y, if_neg h30, if_neg hc, if_pos h232]
                   have hn := u_next hok h23
                   rw [e2, e3] at hn
                   rw [u_cnt, if_neg h23, e1, e2, e3, ← Int64.add_assoc] at hr
                   rw [u_at, if_neg h23, e1, e2, e3, show u_s x y l = 2 by rw [u_s, if_neg h30, if_neg hc]] at ha
                   skip
                   exact ih _ _ _ _ _ _ _ _ _ hn.1 (by omega) hr ha)
                | (have hc : ¬ (x < y ∧ y ≤ 2 * x) := fun q => l_gt h91 q.2
                   have e1 : u_k x y = 1 := by rw [u_k, if_neg h30, if_neg hc]
                   have e2 : u_x x y = -y := by rw [u_x, if_neg h30, if_neg hc]
                   have e3 : u_y x y = x := by rw [u_y, if_neg h30, if_neg hc, if_neg h232]
                   have hn := u_next hok h23
                   rw [e2, e3] at hn
                   rw [u_cnt, if_neg h23, e1, e2, e3, ← Int64.add_assoc] at hr
                   rw [u_at, if_neg h23, e1, e2, e3, show u_s x y l = 2 by rw [u_s, if_neg h30, if_neg hc]] at ha
                   skip
                   exact ih _ _ _ _ _ _ _ _ _ hn.1 (by omega) hr ha)
            · refine pv_lconst (pc := 236) (v := 1) dX12_undone_236 (by decide) ?_
              refine pv_lstore_9 (pc := 237) dX12_undone_237 (by decide) rfl ?_
              refine pv_goto (pc := 239) (tgt := 20) dX12_undone_239 (by decide) ?_
              first
                | (have hc : ¬ (x < y ∧ y ≤ 2 * x) := fun q => l_gt h91 q.2
                   have e1 : u_k x y = 1 := by rw [u_k, if_neg h30, if_neg hc]
                   have e2 : u_x x y = -y := by rw [u_x, if_neg h30, if_neg hc]
                   have e3 : u_y x y = 1 := by rw [u_y, if_neg h30, if_neg hc, if_pos h232]
                   have hn := u_next hok h23
                   rw [e2, e3] at hn
                   rw [u_cnt, if_neg h23, e1, e2, e3, ← Int64.add_assoc] at hr
                   rw [u_at, if_neg h23, e1, e2, e3, show u_s x y l = 2 by rw [u_s, if_neg h30, if_neg hc]] at ha
                   skip
                   exact ih _ _ _ _ _ _ _ _ _ hn.1 (by omega) hr ha)
                | (have hc : ¬ (x < y ∧ y ≤ 2 * x) := fun q => l_gt h91 q.2
                   have e1 : u_k x y = 1 := by rw [u_k, if_neg h30, if_neg hc]
                   have e2 : u_x x y = -y := by rw [u_x, if_neg h30, if_neg hc]
                   have e3 : u_y x y = x := by rw [u_y, if_neg h30, if_neg hc, if_neg h232]
                   have hn := u_next hok h23
                   rw [e2, e3] at hn
                   rw [u_cnt, if_neg h23, e1, e2, e3, ← Int64.add_assoc] at hr
                   rw [u_at, if_neg h23, e1, e2, e3, show u_s x y l = 2 by rw [u_s, if_neg h30, if_neg hc]] at ha
                   skip
                   exact ih _ _ _ _ _ _ _ _ _ hn.1 (by omega) hr ha)
          · refine pv_lload_9 (pc := 95) dX12_undone_95 ?_
            refine pv_lload_7 (pc := 97) dX12_undone_97 ?_
            refine pv_lsub (pc := 99) dX12_undone_99 ?_
            refine pv_lstore_13 (pc := 100) dX12_undone_100 (by decide) rfl ?_
            refine pv_lload_7 (pc := 102) dX12_undone_102 ?_
            refine pv_lload_13 (pc := 104) dX12_undone_104 ?_
            refine pv_ldiv (pc := 106) dX12_undone_106 (by have q := u_B hok h30 h23 ⟨h79, l_ngt h91⟩; rw [l64_n0, q.2.2.2.1]; omega) ?_
            refine pv_lstore_15 (pc := 107) dX12_undone_107 (by decide) rfl ?_
            refine pv_aload_0 (pc := 109) dX12_undone_109 ?_
            refine pv_getL (pc := 110) dX12_undone_110 fg_X12_260_12 (by decide) (sx_61 hT) ?_
            refine pv_lconst (pc := 113) (v := 0) dX12_undone_113 (by decide) ?_
            refine pv_lcmp_lt (pc := 114) (tgt := 154) dX12_undone_114 dX12_undone_115 (by decide) (fun h114 => ?_) (fun h114 => ?_)
            · refine pv_aload_0 (pc := 154) dX12_undone_154 ?_
              refine pv_dup (pc := 155) dX12_undone_155 rfl ?_
              refine pv_getL (pc := 156) dX12_undone_156 fg_X12_260_12 (by decide) (sx_61 hT) ?_
              refine pv_ldc2 (pc := 159) dX12_undone_159 k_X12_272 ?_
              refine pv_lload_15 (pc := 162) dX12_undone_162 ?_
              refine pv_lmul (pc := 164) dX12_undone_164 ?_
              refine pv_lsub (pc := 165) dX12_undone_165 ?_
              refine pv_putL (pc := 166) dX12_undone_166 fl_X12_260_12 (fun q => by cases q) (by decide) (sx_61 hT) ?_
              refine pv_lload_11 (pc := 169) dX12_undone_169 ?_
              refine pv_ldc2 (pc := 171) dX12_undone_171 k_X12_272 ?_
              refine pv_lload_15 (pc := 174) dX12_undone_174 ?_
              refine pv_lmul (pc := 176) dX12_undone_176 ?_
              refine pv_ladd (pc := 177) dX12_undone_177 ?_
              refine pv_lstore_11 (pc := 178) dX12_undone_178 (by decide) rfl ?_
              refine pv_lload_7 (pc := 180) dX12_undone_180 ?_
              refine pv_lload_15 (pc := 182) dX12_undone_182 ?_
              refine pv_lload_13 (pc := 184) dX12_undone_184 ?_
              refine pv_lmul (pc := 186) dX12_undone_186 ?_
              refine pv_lsub (pc := 187) dX12_undone_187 ?_
              refine pv_lstore_7 (pc := 188) dX12_undone_188 (by decide) rfl ?_
              refine pv_lload_9 (pc := 190) dX12_undone_190 ?_
              refine pv_lload_15 (pc := 192) dX12_undone_192 ?_
              refine pv_lload_13 (pc := 194) dX12_undone_194 ?_
              refine pv_lmul (pc := 196) dX12_undone_196 ?_
              refine pv_lsub (pc := 197) dX12_undone_197 ?_
              refine pv_lstore_9 (pc := 198) dX12_undone_198 (by decide) rfl ?_
              refine pv_goto (pc := 200) (tgt := 20) dX12_undone_200 (by decide) ?_
              have hc : x < y ∧ y ≤ 2 * x := ⟨h79, l_ngt h91⟩
              have e1 : u_k x y = 3 * (x / (y - x)) := by rw [u_k, if_neg h30, if_pos hc]
              have e2 : u_x x y = x - x / (y - x) * (y - x) := by rw [u_x, if_neg h30, if_pos hc]
              have e3 : u_y x y = y - x / (y - x) * (y - x) := by rw [u_y, if_neg h30, if_pos hc]
              have hn := u_next hok h23
              rw [e2, e3] at hn
              rw [u_cnt, if_neg h23, e1, e2, e3, ← Int64.add_assoc] at hr
              rw [u_at, if_neg h23, e1, e2, e3, show u_s x y l = (if l % 3 = 0 then 2 else 0) by rw [u_s, if_neg h30, if_pos hc]] at ha
              refine pv_memIL (I := pv_u I 61 36 (if 0 ≤ l ∧ l < 3 * (x / (y - x)) then (if l % 3 = 0 then 2 else 0) else w)) (L := pv_u L 61 35 (l - 3 * (x / (y - x)))) ?_ (pv_u_u L 61 35 l _) ?_
              · first
                  | (have f1 : l < 0 := h114; rw [if_neg (fun q => l_gn q.1 f1)]; done)
                  | (have f1 : ¬ l < 3 * (x / (y - x)) := h128; rw [if_neg (fun q => f1 q.2)]; done)
                  | (have f1 : ¬ l < 0 := h114; have f2 : l < 3 * (x / (y - x)) := h128; have f3 : l % 3 = 0 := h142; rw [if_pos ⟨l_ge f1, f2⟩, if_pos f3]; exact pv_u_u I 61 36 w _)
                  | (have f1 : ¬ l < 0 := h114; have f2 : l < 3 * (x / (y - x)) := h128; have f3 : ¬ l % 3 = 0 := h142; rw [if_pos ⟨l_ge f1, f2⟩, if_neg f3]; exact pv_u_u I 61 36 w _)
              exact ih _ _ _ _ _ _ _ _ _ hn.1 (by omega) hr ha
            · refine pv_aload_0 (pc := 118) dX12_undone_118 ?_
              refine pv_getL (pc := 119) dX12_undone_119 fg_X12_260_12 (by decide) (sx_61 hT) ?_
              refine pv_ldc2 (pc := 122) dX12_undone_122 k_X12_272 ?_
              refine pv_lload_15 (pc := 125) dX12_undone_125 ?_
              refine pv_lmul (pc := 127) dX12_undone_127 ?_
              refine pv_lcmp_ge (pc := 128) (tgt := 154) dX12_undone_128 dX12_undone_129 (by decide) (fun h128 => ?_) (fun h128 => ?_)
              · refine pv_aload_0 (pc := 154) dX12_undone_154 ?_
                refine pv_dup (pc := 155) dX12_undone_155 rfl ?_
                refine pv_getL (pc := 156) dX12_undone_156 fg_X12_260_12 (by decide) (sx_61 hT) ?_
                refine pv_ldc2 (pc := 159) dX12_undone_159 k_X12_272 ?_
                refine pv_lload_15 (pc := 162) dX12_undone_162 ?_
                refine pv_lmul (pc := 164) dX12_undone_164 ?_
                refine pv_lsub (pc := 165) dX12_undone_165 ?_
                refine pv_putL (pc := 166) dX12_undone_166 fl_X12_260_12 (fun q => by cases q) (by decide) (sx_61 hT) ?_
                refine pv_lload_11 (pc := 169) dX12_undone_169 ?_
                refine pv_ldc2 (pc := 171) dX12_undone_171 k_X12_272 ?_
                refine pv_lload_15 (pc := 174) dX12_undone_174 ?_
                refine pv_lmul (pc := 176) dX12_undone_176 ?_
                refine pv_ladd (pc := 177) dX12_undone_177 ?_
                refine pv_lstore_11 (pc := 178) dX12_undone_178 (by decide) rfl ?_
                refine pv_lload_7 (pc := 180) dX12_undone_180 ?_
                refine pv_lload_15 (pc := 182) dX12_undone_182 ?_
                refine pv_lload_13 (pc := 184) dX12_undone_184 ?_
                refine pv_lmul (pc := 186) dX12_undone_186 ?_
                refine pv_lsub (pc := 187) dX12_undone_187 ?_
                refine pv_lstore_7 (pc := 188) dX12_undone_188 (by decide) rfl ?_
                refine pv_lload_9 (pc := 190) dX12_undone_190 ?_
                refine pv_lload_15 (pc := 192) dX12_undone_192 ?_
                refine pv_lload_13 (pc := 194) dX12_undone_194 ?_
                refine pv_lmul (pc := 196) dX12_undone_196 ?_
                refine pv_lsub (pc := 197) dX12_undone_197 ?_
                refine pv_lstore_9 (pc := 198) dX12_undone_198 (by decide) rfl ?_
                refine pv_goto (pc := 200) (tgt := 20) dX12_undone_200 (by decide) ?_
                have hc : x < y ∧ y ≤ 2 * x := ⟨h79, l_ngt h91⟩
                have e1 : u_k x y = 3 * (x / (y - x)) := by rw [u_k, if_neg h30, if_pos hc]
                have e2 : u_x x y = x - x / (y - x) * (y - x) := by rw [u_x, if_neg h30, if_pos hc]
                have e3 : u_y x y = y - x / (y - x) * (y - x) := by rw [u_y, if_neg h30, if_pos hc]
                have hn := u_next hok h23
                rw [e2, e3] at hn
                rw [u_cnt, if_neg h23, e1, e2, e3, ← Int64.add_assoc] at hr
                rw [u_at, if_neg h23, e1, e2, e3, show u_s x y l = (if l % 3 = 0 then 2 else 0) by rw [u_s, if_neg h30, if_pos hc]] at ha
                refine pv_memIL (I := pv_u I 61 36 (if 0 ≤ l ∧ l < 3 * (x / (y - x)) then (if l % 3 = 0 then 2 else 0) else w)) (L := pv_u L 61 35 (l - 3 * (x / (y - x)))) ?_ (pv_u_u L 61 35 l _) ?_
                · first
                    | (have f1 : l < 0 := h114; rw [if_neg (fun q => l_gn q.1 f1)]; done)
                    | (have f1 : ¬ l < 3 * (x / (y - x)) := h128; rw [if_neg (fun q => f1 q.2)]; done)
                    | (have f1 : ¬ l < 0 := h114; have f2 : l < 3 * (x / (y - x)) := h128; have f3 : l % 3 = 0 := h142; rw [if_pos ⟨l_ge f1, f2⟩, if_pos f3]; exact pv_u_u I 61 36 w _)
                    | (have f1 : ¬ l < 0 := h114; have f2 : l < 3 * (x / (y - x)) := h128; have f3 : ¬ l % 3 = 0 := h142; rw [if_pos ⟨l_ge f1, f2⟩, if_neg f3]; exact pv_u_u I 61 36 w _)
                exact ih _ _ _ _ _ _ _ _ _ hn.1 (by omega) hr ha
              · refine pv_aload_0 (pc := 132) dX12_undone_132 ?_
                refine pv_aload_0 (pc := 133) dX12_undone_133 ?_
                refine pv_getL (pc := 134) dX12_undone_134 fg_X12_260_12 (by decide) (sx_61 hT) ?_
                refine pv_ldc2 (pc := 137) dX12_undone_137 k_X12_272 ?_
                refine pv_lrem (pc := 140) dX12_undone_140 (by decide) ?_
                refine pv_lconst (pc := 141) (v := 0) dX12_undone_141 (by decide) ?_
                refine pv_lcmp_ne (pc := 142) (tgt := 150) dX12_undone_142 dX12_undone_143 (by decide) (fun h142 => ?_) (fun h142 => ?_)
                · refine pv_iconst (pc := 150) (v := 0) dX12_undone_150 (by decide) ?_
                  refine pv_putI (pc := 151) dX12_undone_151 fl_X12_263_12 (fun q => by cases q) ⟨rfl, rfl, rfl⟩ (by decide) (sx_61 hT) ?_
                  refine pv_aload_0 (pc := 154) dX12_undone_154 ?_
                  refine pv_dup (pc := 155) dX12_undone_155 rfl ?_
                  refine pv_getL (pc := 156) dX12_undone_156 fg_X12_260_12 (by decide) (sx_61 hT) ?_
                  refine pv_ldc2 (pc := 159) dX12_undone_159 k_X12_272 ?_
                  refine pv_lload_15 (pc := 162) dX12_undone_162 ?_
                  refine pv_lmul (pc := 164) dX12_undone_164 ?_
                  refine pv_lsub (pc := 165) dX12_undone_165 ?_
                  refine pv_putL (pc := 166) dX12_undone_166 fl_X12_260_12 (fun q => by cases q) (by decide) (sx_61 hT) ?_
                  refine pv_lload_11 (pc := 169) dX12_undone_169 ?_
                  refine pv_ldc2 (pc := 171) dX12_undone_171 k_X12_272 ?_
                  refine pv_lload_15 (pc := 174) dX12_undone_174 ?_
                  refine pv_lmul (pc := 176) dX12_undone_176 ?_
                  refine pv_ladd (pc := 177) dX12_undone_177 ?_
                  refine pv_lstore_11 (pc := 178) dX12_undone_178 (by decide) rfl ?_
                  refine pv_lload_7 (pc := 180) dX12_undone_180 ?_
                  refine pv_lload_15 (pc := 182) dX12_undone_182 ?_
                  refine pv_lload_13 (pc := 184) dX12_undone_184 ?_
                  refine pv_lmul (pc := 186) dX12_undone_186 ?_
                  refine pv_lsub (pc := 187) dX12_undone_187 ?_
                  refine pv_lstore_7 (pc := 188) dX12_undone_188 (by decide) rfl ?_
                  refine pv_lload_9 (pc := 190) dX12_undone_190 ?_
                  refine pv_lload_15 (pc := 192) dX12_undone_192 ?_
                  refine pv_lload_13 (pc := 194) dX12_undone_194 ?_
                  refine pv_lmul (pc := 196) dX12_undone_196 ?_
                  refine pv_lsub (pc := 197) dX12_undone_197 ?_
                  refine pv_lstore_9 (pc := 198) dX12_undone_198 (by decide) rfl ?_
                  refine pv_goto (pc := 200) (tgt := 20) dX12_undone_200 (by decide) ?_
                  have hc : x < y ∧ y ≤ 2 * x := ⟨h79, l_ngt h91⟩
                  have e1 : u_k x y = 3 * (x / (y - x)) := by rw [u_k, if_neg h30, if_pos hc]
                  have e2 : u_x x y = x - x / (y - x) * (y - x) := by rw [u_x, if_neg h30, if_pos hc]
                  have e3 : u_y x y = y - x / (y - x) * (y - x) := by rw [u_y, if_neg h30, if_pos hc]
                  have hn := u_next hok h23
                  rw [e2, e3] at hn
                  rw [u_cnt, if_neg h23, e1, e2, e3, ← Int64.add_assoc] at hr
                  rw [u_at, if_neg h23, e1, e2, e3, show u_s x y l = (if l % 3 = 0 then 2 else 0) by rw [u_s, if_neg h30, if_pos hc]] at ha
                  refine pv_memIL (I := pv_u I 61 36 (if 0 ≤ l ∧ l < 3 * (x / (y - x)) then (if l % 3 = 0 then 2 else 0) else w)) (L := pv_u L 61 35 (l - 3 * (x / (y - x)))) ?_ (pv_u_u L 61 35 l _) ?_
                  · first
                      | (have f1 : l < 0 := h114; rw [if_neg (fun q => l_gn q.1 f1)]; done)
                      | (have f1 : ¬ l < 3 * (x / (y - x)) := h128; rw [if_neg (fun q => f1 q.2)]; done)
                      | (have f1 : ¬ l < 0 := h114; have f2 : l < 3 * (x / (y - x)) := h128; have f3 : l % 3 = 0 := h142; rw [if_pos ⟨l_ge f1, f2⟩, if_pos f3]; exact pv_u_u I 61 36 w _)
                      | (have f1 : ¬ l < 0 := h114; have f2 : l < 3 * (x / (y - x)) := h128; have f3 : ¬ l % 3 = 0 := h142; rw [if_pos ⟨l_ge f1, f2⟩, if_neg f3]; exact pv_u_u I 61 36 w _)
                  exact ih _ _ _ _ _ _ _ _ _ hn.1 (by omega) hr ha
                · refine pv_iconst (pc := 146) (v := 2) dX12_undone_146 (by decide) ?_
                  refine pv_goto (pc := 147) (tgt := 151) dX12_undone_147 (by decide) ?_
                  refine pv_putI (pc := 151) dX12_undone_151 fl_X12_263_12 (fun q => by cases q) ⟨rfl, rfl, rfl⟩ (by decide) (sx_61 hT) ?_
                  refine pv_aload_0 (pc := 154) dX12_undone_154 ?_
                  refine pv_dup (pc := 155) dX12_undone_155 rfl ?_
                  refine pv_getL (pc := 156) dX12_undone_156 fg_X12_260_12 (by decide) (sx_61 hT) ?_
                  refine pv_ldc2 (pc := 159) dX12_undone_159 k_X12_272 ?_
                  refine pv_lload_15 (pc := 162) dX12_undone_162 ?_
                  refine pv_lmul (pc := 164) dX12_undone_164 ?_
                  refine pv_lsub (pc := 165) dX12_undone_165 ?_
                  refine pv_putL (pc := 166) dX12_undone_166 fl_X12_260_12 (fun q => by cases q) (by decide) (sx_61 hT) ?_
                  refine pv_lload_11 (pc := 169) dX12_undone_169 ?_
                  refine pv_ldc2 (pc := 171) dX12_undone_171 k_X12_272 ?_
                  refine pv_lload_15 (pc := 174) dX12_undone_174 ?_
                  refine pv_lmul (pc := 176) dX12_undone_176 ?_
                  refine pv_ladd (pc := 177) dX12_undone_177 ?_
                  refine pv_lstore_11 (pc := 178) dX12_undone_178 (by decide) rfl ?_
                  refine pv_lload_7 (pc := 180) dX12_undone_180 ?_
                  refine pv_lload_15 (pc := 182) dX12_undone_182 ?_
                  refine pv_lload_13 (pc := 184) dX12_undone_184 ?_
                  refine pv_lmul (pc := 186) dX12_undone_186 ?_
                  refine pv_lsub (pc := 187) dX12_undone_187 ?_
                  refine pv_lstore_7 (pc := 188) dX12_undone_188 (by decide) rfl ?_
                  refine pv_lload_9 (pc := 190) dX12_undone_190 ?_
                  refine pv_lload_15 (pc := 192) dX12_undone_192 ?_
                  refine pv_lload_13 (pc := 194) dX12_undone_194 ?_
                  refine pv_lmul (pc := 196) dX12_undone_196 ?_
                  refine pv_lsub (pc := 197) dX12_undone_197 ?_
                  refine pv_lstore_9 (pc := 198) dX12_undone_198 (by decide) rfl ?_
                  refine pv_goto (pc := 200) (tgt := 20) dX12_undone_200 (by decide) ?_
                  have hc : x < y ∧ y ≤ 2 * x := ⟨h79, l_ngt h91⟩
                  have e1 : u_k x y = 3 * (x / (y - x)) := by rw [u_k, if_neg h30, if_pos hc]
                  have e2 : u_x x y = x - x / (y - x) * (y - x) := by rw [u_x, if_neg h30, if_pos hc]
                  have e3 : u_y x y = y - x / (y - x) * (y - x) := by rw [u_y, if_neg h30, if_pos hc]
                  have hn := u_next hok h23
                  rw [e2, e3] at hn
                  rw [u_cnt, if_neg h23, e1, e2, e3, ← Int64.add_assoc] at hr
                  rw [u_at, if_neg h23, e1, e2, e3, show u_s x y l = (if l % 3 = 0 then 2 else 0) by rw [u_s, if_neg h30, if_pos hc]] at ha
                  refine pv_memIL (I := pv_u I 61 36 (if 0 ≤ l ∧ l < 3 * (x / (y - x)) then (if l % 3 = 0 then 2 else 0) else w)) (L := pv_u L 61 35 (l - 3 * (x / (y - x)))) ?_ (pv_u_u L 61 35 l _) ?_
                  · first
                      | (have f1 : l < 0 := h114; rw [if_neg (fun q => l_gn q.1 f1)]; done)
                      | (have f1 : ¬ l < 3 * (x / (y - x)) := h128; rw [if_neg (fun q => f1 q.2)]; done)
                      | (have f1 : ¬ l < 0 := h114; have f2 : l < 3 * (x / (y - x)) := h128; have f3 : l % 3 = 0 := h142; rw [if_pos ⟨l_ge f1, f2⟩, if_pos f3]; exact pv_u_u I 61 36 w _)
                      | (have f1 : ¬ l < 0 := h114; have f2 : l < 3 * (x / (y - x)) := h128; have f3 : ¬ l % 3 = 0 := h142; rw [if_pos ⟨l_ge f1, f2⟩, if_neg f3]; exact pv_u_u I 61 36 w _)
                  exact ih _ _ _ _ _ _ _ _ _ hn.1 (by omega) hr ha
      · refine pv_lload_7 (pc := 34) dX12_undone_34 ?_
        refine pv_lneg (pc := 36) dX12_undone_36 ?_
        refine pv_lload_9 (pc := 37) dX12_undone_37 ?_
        refine pv_ladd (pc := 39) dX12_undone_39 ?_
        refine pv_lconst (pc := 40) (v := 1) dX12_undone_40 (by decide) ?_
        refine pv_lsub (pc := 41) dX12_undone_41 ?_
        refine pv_lload_9 (pc := 42) dX12_undone_42 ?_
        refine pv_ldiv (pc := 44) dX12_undone_44 (l64_n0.mpr (by have := (u_A hok h30).1; omega)) ?_
        refine pv_lstore_13 (pc := 45) dX12_undone_45 (by decide) rfl ?_
        refine pv_aload_0 (pc := 47) dX12_undone_47 ?_
        refine pv_lload_13 (pc := 48) dX12_undone_48 ?_
        refine pv_iconst (pc := 50) (v := 0) dX12_undone_50 (by decide) ?_
        refine pv_callV1 (pc := 51) dX12_undone_51 mgX12_goes lv_X12_266_12 (by decide) (sx_61 hT) (by omega) (c_X12_goes hT) rfl rfl (by decide) ?_
        refine pv_pop (pc := 54) dX12_undone_54 rfl ?_
        refine pv_lload_11 (pc := 55) dX12_undone_55 ?_
        refine pv_lload_13 (pc := 57) dX12_undone_57 ?_
        refine pv_ladd (pc := 59) dX12_undone_59 ?_
        refine pv_lstore_11 (pc := 60) dX12_undone_60 (by decide) rfl ?_
        refine pv_lload_7 (pc := 62) dX12_undone_62 ?_
        refine pv_lload_13 (pc := 64) dX12_undone_64 ?_
        refine pv_lload_9 (pc := 66) dX12_undone_66 ?_
        refine pv_lmul (pc := 68) dX12_undone_68 ?_
        refine pv_ladd (pc := 69) dX12_undone_69 ?_
        refine pv_lstore_7 (pc := 70) dX12_undone_70 (by decide) rfl ?_
        refine pv_goto (pc := 72) (tgt := 20) dX12_undone_72 (by decide) ?_
        have e1 : u_k x y = (-x + y - 1) / y := by rw [u_k, if_pos h30]
        have e2 : u_x x y = x + (-x + y - 1) / y * y := by rw [u_x, if_pos h30]
        have e3 : u_y x y = y := by rw [u_y, if_pos h30]
        have hn := u_next hok h23
        rw [e2, e3] at hn
        rw [u_cnt, if_neg h23, e1, e2, e3, ← Int64.add_assoc] at hr
        rw [u_at, if_neg h23, e1, e2, e3, show u_s x y l = 0 by rw [u_s, if_pos h30]] at ha
        skip
        exact ih _ _ _ _ _ _ _ _ _ hn.1 (by omega) hr ha

def u_f (x y : Int64) : Nat := u_m x y + 1
def u_n (x y : Int64) : Int64 := u_cnt (u_f x y) x y
def u_i (x y i : Int64) : Int32 := u_at (u_f x y) x y i (-1)
set_option maxRecDepth 100000 in
set_option maxHeartbeats 4000000 in
theorem c_X12_undone {G : pv_G} {d : Nat} {a b i : Int64} {t : pv_T} {I : pv_I} {L : pv_L} {Rf : pv_R} (hT : sh_ok t) (hok : u_ok a b) (hd : 1 ≤ d) : pv_Mt G mX12_undone d 0 0 [.ref 61, .long a, .long b, .long i] t I L Rf (fun v t1 I1 L1 R1 => v = some (.long (u_n a b)) ∧ t1 = t ∧ R1 = Rf ∧ kS I L I1 L1 ∧ I1 61 36 = u_i a b i) := by
  refine pv_mt mgX12_undone.2.2.2.2.2 [.ref 61, .long a, .retAddr 0, .long b, .retAddr 0, .long i, .retAddr 0, .retAddr 0, .retAddr 0, .retAddr 0, .retAddr 0, .retAddr 0, .retAddr 0, .retAddr 0, .retAddr 0, .retAddr 0, .retAddr 0] rfl (Nat.le_of_ble_eq_true rfl) ?_
  refine pv_lload_1 (pc := 0) dX12_undone_0 ?_
  refine pv_lstore_7 (pc := 1) dX12_undone_1 (by decide) rfl ?_
  refine pv_lload_3 (pc := 3) dX12_undone_3 ?_
  refine pv_lstore_9 (pc := 4) dX12_undone_4 (by decide) rfl ?_
  refine pv_lconst (pc := 6) (v := 0) dX12_undone_6 (by decide) ?_
  refine pv_lstore_11 (pc := 7) dX12_undone_7 (by decide) rfl ?_
  refine pv_aload_0 (pc := 9) dX12_undone_9 ?_
  refine pv_lload_5 (pc := 10) dX12_undone_10 ?_
  refine pv_putL (pc := 12) dX12_undone_12 fl_X12_260_12 (fun q => by cases q) (by decide) (sx_61 hT) ?_
  refine pv_aload_0 (pc := 15) dX12_undone_15 ?_
  refine pv_iconst (pc := 16) (v := (-1)) dX12_undone_16 (by decide) ?_
  refine pv_putI (pc := 17) dX12_undone_17 fl_X12_263_12 (fun q => by cases q) ⟨rfl, rfl, rfl⟩ (by decide) (sx_61 hT) ?_
  refine l_und (R := u_n a b) (A := u_i a b i) hT hd (fun l => ⟨rfl, rfl, rfl, (kS.rf.uI 61 36 _ (by decide)).uL 61 35 _ (by decide), rfl⟩) (u_f a b) a b 0 i (-1) _ _ _ _ hok (Nat.lt_succ_self _) (Int64.zero_add _) rfl

