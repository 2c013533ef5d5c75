/-! the least and the greatest of them -/
def x_bt (g : Bool) (x y : Int64 × Int64) : Bool := if g then s_ltp x y else s_ltp y x
theorem s_ltp_tr {b : Int} {x y z : Int64 × Int64} (hx : gd b x) (hy : gd b y) (hz : gd b z) (h : s_ltp x y = true) (g : s_ltp y z = true) : s_ltp x z = true := by
  unfold s_ltp s_lt at *
  simp only [decide_eq_true_eq] at *
  obtain ⟨x1, -, x2, -⟩ := hx
  obtain ⟨y1, -, y2, -⟩ := hy
  obtain ⟨z1, -, z2, -⟩ := hz
  generalize x.1.toInt = a at *
  generalize x.2.toInt = b at *
  generalize y.1.toInt = c at *
  generalize y.2.toInt = d at *
  generalize z.1.toInt = e at *
  generalize z.2.toInt = f at *
  have hd : 0 < d := by
    apply Classical.byContradiction
    intro q
    have d0 : d = 0 := by omega
    have := y2 d0
    subst d0; subst this
    rw [Int.mul_zero, Int.one_mul] at g
    omega
  have hb : 0 < b := by
    apply Classical.byContradiction
    intro q
    have b0 : b = 0 := by omega
    have := x2 b0
    subst b0; subst this
    rw [Int.mul_zero, Int.one_mul] at h
    omega
  by_cases hf : f = 0
  · have := z2 hf
    subst hf; subst this
    rw [Int.mul_zero, Int.one_mul]; exact hb
  · have hf1 : 0 < f := by omega
    have e1 : a * d * f < c * b * f := Int.mul_lt_mul_of_pos_right h hf1
    have e2 : c * f * b < e * d * b := Int.mul_lt_mul_of_pos_right g hb
    have e3 : a * f * d < e * b * d := by
      have q1 : a * f * d = a * d * f := by grind
      have q2 : c * f * b = c * b * f := by grind
      have q3 : e * b * d = e * d * b := by grind
      omega
    exact Int.lt_of_mul_lt_mul_right e3 (by omega)
theorem i_cop {k m n : Int} (h : k ∣ m * n) (g : Int.gcd k m = 1) : k ∣ n := by
  rw [← Int.natAbs_dvd_natAbs, Int.natAbs_mul] at h
  rw [← Int.natAbs_dvd_natAbs]
  exact Nat.Coprime.dvd_of_dvd_mul_left g h
theorem s_ltp_tot {b : Int} {x y : Int64 × Int64} (hx : gd b x) (hy : gd b y) (h : ¬ s_ltp x y = true) (g : ¬ s_ltp y x = true) : x = y := by
  unfold s_ltp s_lt at *
  simp only [decide_eq_true_eq] at *
  obtain ⟨x1, -, x2, x3⟩ := hx
  obtain ⟨y1, -, y2, y3⟩ := hy
  have e : x.1.toInt * y.2.toInt = y.1.toInt * x.2.toInt := by omega
  have d1 : x.2.toInt ∣ y.2.toInt := by
    have q : x.2.toInt ∣ x.1.toInt * y.2.toInt := by rw [e]; exact Int.dvd_mul_left ..
    have c1 : Int.gcd x.2.toInt x.1.toInt = 1 := by rw [Int.gcd_comm]; exact x3
    exact i_cop q c1
  have d2 : y.2.toInt ∣ x.2.toInt := by
    have q : y.2.toInt ∣ y.1.toInt * x.2.toInt := by rw [← e]; exact Int.dvd_mul_left ..
    have c1 : Int.gcd y.2.toInt y.1.toInt = 1 := by rw [Int.gcd_comm]; exact y3
    exact i_cop q c1
  have e2 : x.2.toInt = y.2.toInt := Int.dvd_antisymm x1 y1 d1 d2
  refine Prod.ext ?_ ?_ <;> rw [← Int64.toInt_inj]
  · by_cases z : x.2.toInt = 0
    · rw [x2 z, y2 (by omega)]
    · rw [← e2] at e
      exact Int.eq_of_mul_eq_mul_right z e
  · exact e2
theorem x_bt_tr {b : Int} {g : Bool} {x y z : Int64 × Int64} (hx : gd b x) (hy : gd b y) (hz : gd b z) (h : x_bt g x y = true) (k : x_bt g y z = true) : x_bt g x z = true := by
  unfold x_bt at *
  cases g with
  | true => exact s_ltp_tr hx hy hz h k
  | false => exact s_ltp_tr hz hy hx k h
theorem x_bt_ir (g : Bool) (x : Int64 × Int64) : ¬ x_bt g x x = true := by
  unfold x_bt s_ltp s_lt
  cases g <;> simp
/-- the best of several: none is better -/
def x_best (g : Bool) (P : Int64 × Int64 → Prop) (z : Int64 × Int64) : Prop := P z ∧ ∀ y, P y → ¬ x_bt g y z = true
theorem x_best_one {b : Int} {g : Bool} {P : Int64 × Int64 → Prop} (hP : ∀ x, P x → gd b x) {y z : Int64 × Int64} (hy : x_best g P y) (hz : x_best g P z) : y = z := by
  have h1 := hy.2 z hz.1
  have h2 := hz.2 y hy.1
  unfold x_bt at h1 h2
  cases g with
  | true => exact s_ltp_tot (hP y hy.1) (hP z hz.1) h2 h1
  | false => exact s_ltp_tot (hP y hy.1) (hP z hz.1) h1 h2
theorem w_bs1_best {b : Int} (g : Bool) : ∀ (l : ML) (y : Int64 × Int64) (P : Int64 × Int64 → Prop), (∀ x, P x → gd b x) → (∀ x ∈ l, gd b x) → x_best g P y → x_best g (fun x => P x ∨ x ∈ l) (w_bs1 g y l)
  | [], y, P, hP, hl, h => ⟨Or.inl h.1, fun x hx => h.2 x (hx.elim id (fun q => (List.not_mem_nil q).elim))⟩
  | x :: l, y, P, hP, hl, h => by
    have hx := hl x (List.mem_cons_self ..)
    have hy := hP y h.1
    rw [w_bs1]
    have e : (fun z => P z ∨ z ∈ x :: l) = (fun z => (P z ∨ z = x) ∨ z ∈ l) := by
      funext z
      rw [List.mem_cons]
      exact propext ⟨fun q => q.elim (fun r => Or.inl (Or.inl r)) (fun r => r.elim (fun s => Or.inl (Or.inr s)) Or.inr), fun q => q.elim (fun r => r.elim Or.inl (fun s => Or.inr (Or.inl s))) (fun r => Or.inr (Or.inr r))⟩
    rw [e]
    refine w_bs1_best g l _ (fun z => P z ∨ z = x) (fun z hz => hz.elim (hP z) (fun r => r ▸ hx)) (fun z hz => hl z (List.mem_cons_of_mem _ hz)) ?_
    show x_best g _ (if x_bt g x y = true then x else y)
    by_cases hb : x_bt g x y = true
    · rw [if_pos hb]
      refine ⟨Or.inr rfl, fun z hz q => ?_⟩
      rcases hz with hz | rfl
      · exact h.2 z hz (x_bt_tr (hP z hz) hx hy q hb)
      · exact x_bt_ir g _ q
    · rw [if_neg hb]
      refine ⟨Or.inl h.1, fun z hz q => ?_⟩
      rcases hz with hz | rfl
      · exact h.2 z hz q
      · exact hb q
theorem w_bst_best {b : Int} (g : Bool) (l : ML) (hl : ∀ x ∈ l, gd b x) (hn : l ≠ []) : x_best g (fun x => x ∈ l) (w_bst g l) := by
  cases l with
  | nil => exact absurd rfl hn
  | cons y l =>
    have h := w_bs1_best (b := b) g l y (fun x => x = y) (fun x hx => hx ▸ hl y (List.mem_cons_self ..)) (fun x hx => hl x (List.mem_cons_of_mem _ hx)) ⟨rfl, fun z hz q => by rw [hz] at q; exact x_bt_ir g _ q⟩
    have e : (fun x => x ∈ y :: l) = (fun x => x = y ∨ x ∈ l) := by funext x; rw [List.mem_cons]
    rw [e]; exact h

/-! the class: compare -/
def x_cmp (a b c d : Int64) : Int32 := if s_lt a b c d = true then -1 else if s_lt c d a b = true then 1 else 0
theorem x_xor {a b : Int64} (hb : 0 ≤ b.toInt) : a ^^^ b < 0 ↔ a.toInt < 0 := by
  rw [Int64.lt_iff_toInt_lt, show (0 : Int64).toInt = 0 by decide]
  have e : ∀ x : Int64, x.toInt < 0 ↔ x.toBitVec.msb = true := by
    intro x
    rw [BitVec.msb_eq_toInt, decide_eq_true_eq]; rfl
  rw [e, e, Int64.toBitVec_xor, BitVec.msb_xor]
  have h2 : b.toBitVec.msb = false := by
    cases h : b.toBitVec.msb with
    | false => rfl
    | true => rw [← e] at h; omega
  rw [h2, Bool.xor_false]
theorem x_flr {a b : Int64} (hb : 0 < b.toInt) (ha : -4611686018427387904 ≤ a.toInt ∧ a.toInt ≤ 4611686018427387904) : s_floor a b = if a ^^^ b < 0 ∧ ¬ a / b * b = a then a / b - 1 else a / b := by
  unfold s_floor
  have e2 : (a % b).toInt = a.toInt.tmod b.toInt := Int64.toInt_mod a b
  have e1 : (a / b).toInt = a.toInt.tdiv b.toInt := Jvm.Kit.i64_div (by omega)
  have em : b.toInt * a.toInt.tdiv b.toInt + a.toInt.tmod b.toInt = a.toInt := Int.mul_tdiv_add_tmod ..
  have hp : 0 ≤ a.toInt → 0 ≤ a.toInt.tmod b.toInt ∧ 0 ≤ b.toInt * a.toInt.tdiv b.toInt := fun q => ⟨Int.tmod_nonneg _ q, Int.mul_nonneg (by omega) (Int.tdiv_nonneg q (by omega))⟩
  have hn : a.toInt ≤ 0 → a.toInt.tmod b.toInt ≤ 0 ∧ b.toInt * a.toInt.tdiv b.toInt ≤ 0 := fun q => by
    have h1 := Int.tmod_nonneg b.toInt (show 0 ≤ -a.toInt by omega)
    have h2 := Int.mul_nonneg (show 0 ≤ b.toInt by omega) (Int.tdiv_nonneg (show 0 ≤ -a.toInt by omega) (show 0 ≤ b.toInt by omega))
    rw [Int.neg_tmod] at h1
    rw [Int.neg_tdiv, Int.mul_neg] at h2
    omega
  have hz : a / b * b = a ↔ a % b = 0 := by
    have e3 : (a / b * b).toInt = a.toInt - a.toInt.tmod b.toInt := by
      rw [Int64.toInt_mul, e1, Int.mul_comm, l64 (by omega)]; omega
    have ez : a % b = 0 ↔ a.toInt.tmod b.toInt = 0 := by
      rw [← e2]
      exact ⟨fun q => by rw [q]; decide, fun q => i0 q⟩
    rw [ez, ← Int64.toInt_inj, e3]
    omega
  have k : a % b < 0 ↔ (a ^^^ b < 0 ∧ ¬ a / b * b = a) := by
    rw [x_xor (by omega), hz, Int64.lt_iff_toInt_lt, show (0 : Int64).toInt = 0 by decide, e2]
    have ez : a % b = 0 ↔ a.toInt.tmod b.toInt = 0 := by
      rw [← e2]
      exact ⟨fun q => by rw [q]; decide, fun q => i0 q⟩
    rw [ez]
    have h1 : 0 ≤ a.toInt → 0 ≤ a.toInt.tmod b.toInt := fun q => Int.tmod_nonneg _ q
    have h2 : a.toInt ≤ 0 → a.toInt.tmod b.toInt ≤ 0 := fun q => by
      have := Int.tmod_nonneg b.toInt (show 0 ≤ -a.toInt by omega)
      rw [Int.neg_tmod] at this
      omega
    omega
  by_cases g : a % b < 0
  · rw [if_pos g, if_pos (k.mp g)]
  · rw [if_neg g, if_neg (fun q => g (k.mpr q))]

set_option maxRecDepth 100000 in
set_option maxHeartbeats 4000000 in
theorem c_J9_floorDiv_f86c9 {G : pv_G} {d : Nat} {x y : Int64} {t : pv_T} {I : pv_I} {L : pv_L} {Rf : pv_R} (hb : 0 < y.toInt) (ha : -4611686018427387904 ≤ x.toInt ∧ x.toInt ≤ 4611686018427387904) : pv_Mt G mJ9_floorDiv_f86c9 d 0 0 [.long x, .long y] t I L Rf (pv_is (some (.long (s_floor x y))) t I L Rf) := by
  refine pv_mt mgJ9_floorDiv_f86c9.2.2.2.2.2 [.long x, .retAddr 0, .long y, .retAddr 0, .retAddr 0, .retAddr 0] rfl (Nat.le_of_ble_eq_true rfl) ?_
  refine pv_lload_0 (pc := 0) dJ9_floorDiv_f86c9_0 ?_
  refine pv_lload_2 (pc := 1) dJ9_floorDiv_f86c9_1 ?_
  refine pv_ldiv (pc := 2) dJ9_floorDiv_f86c9_2 (fun q => by rw [q] at hb; exact absurd hb (by decide)) ?_
  refine pv_lstore_4 (pc := 3) dJ9_floorDiv_f86c9_3 (by decide) rfl ?_
  refine pv_lload_0 (pc := 5) dJ9_floorDiv_f86c9_5 ?_
  refine pv_lload_2 (pc := 6) dJ9_floorDiv_f86c9_6 ?_
  refine pv_lxor (pc := 7) dJ9_floorDiv_f86c9_7 ?_
  refine pv_lconst (pc := 8) (v := 0) dJ9_floorDiv_f86c9_8 (by decide) ?_
  refine pv_lcmp_ge (pc := 9) (tgt := 27) dJ9_floorDiv_f86c9_9 dJ9_floorDiv_f86c9_10 (by decide) (fun h9 => ?_) (fun h9 => ?_)
  · refine pv_lload_4 (pc := 27) dJ9_floorDiv_f86c9_27 ?_
    refine pv_lret (pc := 29) dJ9_floorDiv_f86c9_29 rfl ?_
    refine ⟨congrArg (fun z => some (Value.long z)) ?_, rfl, rfl, rfl, rfl⟩
    rw [x_flr hb ha]
    first
      | (have f1 := h9; rw [if_neg (fun q => f1 q.1)]; done)
      | (have f1 := h18; rw [if_neg (fun q => q.2 (by first | exact f1 | exact Classical.not_not.mp f1))]; done)
      | (have f1 := h9; have f2 := h18; rw [if_pos ⟨by first | exact f1 | exact Classical.not_not.mp f1, f2⟩]; done)
  · refine pv_lload_4 (pc := 13) dJ9_floorDiv_f86c9_13 ?_
    refine pv_lload_2 (pc := 15) dJ9_floorDiv_f86c9_15 ?_
    refine pv_lmul (pc := 16) dJ9_floorDiv_f86c9_16 ?_
    refine pv_lload_0 (pc := 17) dJ9_floorDiv_f86c9_17 ?_
    refine pv_lcmp_eq (pc := 18) (tgt := 27) dJ9_floorDiv_f86c9_18 dJ9_floorDiv_f86c9_19 (by decide) (fun h18 => ?_) (fun h18 => ?_)
    · refine pv_lload_4 (pc := 27) dJ9_floorDiv_f86c9_27 ?_
      refine pv_lret (pc := 29) dJ9_floorDiv_f86c9_29 rfl ?_
      refine ⟨congrArg (fun z => some (Value.long z)) ?_, rfl, rfl, rfl, rfl⟩
      rw [x_flr hb ha]
      first
        | (have f1 := h9; rw [if_neg (fun q => f1 q.1)]; done)
        | (have f1 := h18; rw [if_neg (fun q => q.2 (by first | exact f1 | exact Classical.not_not.mp f1))]; done)
        | (have f1 := h9; have f2 := h18; rw [if_pos ⟨by first | exact f1 | exact Classical.not_not.mp f1, f2⟩]; done)
    · refine pv_lload_4 (pc := 22) dJ9_floorDiv_f86c9_22 ?_
      refine pv_lconst (pc := 24) (v := 1) dJ9_floorDiv_f86c9_24 (by decide) ?_
      refine pv_lsub (pc := 25) dJ9_floorDiv_f86c9_25 ?_
      refine pv_lret (pc := 26) dJ9_floorDiv_f86c9_26 rfl ?_
      refine ⟨congrArg (fun z => some (Value.long z)) ?_, rfl, rfl, rfl, rfl⟩
      rw [x_flr hb ha]
      first
        | (have f1 := h9; rw [if_neg (fun q => f1 q.1)]; done)
        | (have f1 := h18; rw [if_neg (fun q => q.2 (by first | exact f1 | exact Classical.not_not.mp f1))]; done)
        | (have f1 := h9; have f2 := h18; rw [if_pos ⟨by first | exact f1 | exact Classical.not_not.mp f1, f2⟩]; done)

set_option maxRecDepth 100000 in
set_option maxHeartbeats 4000000 in
theorem c_J13_compare_74951 {G : pv_G} {d : Nat} {x y : Int64} {t : pv_T} {I : pv_I} {L : pv_L} {Rf : pv_R}  : pv_Mt G mJ13_compare_74951 d 0 0 [.long x, .long y] t I L Rf (pv_is (some (.int (if x < y then -1 else if x = y then 0 else 1))) t I L Rf) := by
  refine pv_mt mgJ13_compare_74951.2.2.2.2.2 [.long x, .retAddr 0, .long y, .retAddr 0] rfl (Nat.le_of_ble_eq_true rfl) ?_
  refine pv_lload_0 (pc := 0) dJ13_compare_74951_0 ?_
  refine pv_lload_2 (pc := 1) dJ13_compare_74951_1 ?_
  refine pv_lcmp_ge (pc := 2) (tgt := 10) dJ13_compare_74951_2 dJ13_compare_74951_3 (by decide) (fun h2 => ?_) (fun h2 => ?_)
  · refine pv_lload_0 (pc := 10) dJ13_compare_74951_10 ?_
    refine pv_lload_2 (pc := 11) dJ13_compare_74951_11 ?_
    refine pv_lcmp_ne (pc := 12) (tgt := 20) dJ13_compare_74951_12 dJ13_compare_74951_13 (by decide) (fun h12 => ?_) (fun h12 => ?_)
    · refine pv_iconst (pc := 20) (v := 1) dJ13_compare_74951_20 (by decide) ?_
      refine pv_iret (pc := 21) dJ13_compare_74951_21 rfl rfl ?_
      refine ⟨congrArg (fun z => some (Value.int z)) ?_, rfl, rfl, rfl, rfl⟩
      first
        | (rw [if_pos (by first | exact h2 | exact Classical.not_not.mp h2)]; done)
        | (rw [if_neg (by first | exact h2 | exact fun q => h2 q), if_pos (by first | exact h12 | exact Classical.not_not.mp h12)]; done)
        | (rw [if_neg (by first | exact h2 | exact fun q => h2 q), if_neg (by first | exact h12 | exact fun q => h12 q)]; done)
    · refine pv_iconst (pc := 16) (v := 0) dJ13_compare_74951_16 (by decide) ?_
      refine pv_goto (pc := 17) (tgt := 21) dJ13_compare_74951_17 (by decide) ?_
      refine pv_iret (pc := 21) dJ13_compare_74951_21 rfl rfl ?_
      refine ⟨congrArg (fun z => some (Value.int z)) ?_, rfl, rfl, rfl, rfl⟩
      first
        | (rw [if_pos (by first | exact h2 | exact Classical.not_not.mp h2)]; done)
        | (rw [if_neg (by first | exact h2 | exact fun q => h2 q), if_pos (by first | exact h12 | exact Classical.not_not.mp h12)]; done)
        | (rw [if_neg (by first | exact h2 | exact fun q => h2 q), if_neg (by first | exact h12 | exact fun q => h12 q)]; done)
  · refine pv_iconst (pc := 6) (v := (-1)) dJ13_compare_74951_6 (by decide) ?_
    refine pv_goto (pc := 7) (tgt := 21) dJ13_compare_74951_7 (by decide) ?_
    refine pv_iret (pc := 21) dJ13_compare_74951_21 rfl rfl ?_
    refine ⟨congrArg (fun z => some (Value.int z)) ?_, rfl, rfl, rfl, rfl⟩
    first
      | (rw [if_pos (by first | exact h2 | exact Classical.not_not.mp h2)]; done)
      | (rw [if_neg (by first | exact h2 | exact fun q => h2 q), if_pos (by first | exact h12 | exact Classical.not_not.mp h12)]; done)
      | (rw [if_neg (by first | exact h2 | exact fun q => h2 q), if_neg (by first | exact h12 | exact fun q => h12 q)]; done)

set_option maxRecDepth 100000 in
set_option maxHeartbeats 4000000 in
theorem c_J6_compare_7cf53 {G : pv_G} {d : Nat} {x y : Int32} {t : pv_T} {I : pv_I} {L : pv_L} {Rf : pv_R}  : pv_Mt G mJ6_compare_7cf53 d 0 0 [.int x, .int y] t I L Rf (pv_is (some (.int (if x < y then -1 else if x = y then 0 else 1))) t I L Rf) := by
  refine pv_mt mgJ6_compare_7cf53.2.2.2.2.2 [.int x, .int y] rfl (Nat.le_of_ble_eq_true rfl) ?_
  refine pv_iload_0 (pc := 0) dJ6_compare_7cf53_0 ?_
  refine pv_iload_1 (pc := 1) dJ6_compare_7cf53_1 ?_
  refine pv_icmp_ge (pc := 2) (tgt := 9) dJ6_compare_7cf53_2 (by decide) (fun h2 => ?_) (fun h2 => ?_)
  · refine pv_iload_0 (pc := 9) dJ6_compare_7cf53_9 ?_
    refine pv_iload_1 (pc := 10) dJ6_compare_7cf53_10 ?_
    refine pv_icmp_ne (pc := 11) (tgt := 18) dJ6_compare_7cf53_11 (by decide) (fun h11 => ?_) (fun h11 => ?_)
    · refine pv_iconst (pc := 18) (v := 1) dJ6_compare_7cf53_18 (by decide) ?_
      refine pv_iret (pc := 19) dJ6_compare_7cf53_19 rfl rfl ?_
      refine ⟨congrArg (fun z => some (Value.int z)) ?_, rfl, rfl, rfl, rfl⟩
      first
        | (rw [if_pos (by first | exact h2 | exact Classical.not_not.mp h2)]; done)
        | (rw [if_neg (by first | exact h2 | exact fun q => h2 q), if_pos (by first | exact h11 | exact Classical.not_not.mp h11)]; done)
        | (rw [if_neg (by first | exact h2 | exact fun q => h2 q), if_neg (by first | exact h11 | exact fun q => h11 q)]; done)
    · refine pv_iconst (pc := 14) (v := 0) dJ6_compare_7cf53_14 (by decide) ?_
      refine pv_goto (pc := 15) (tgt := 19) dJ6_compare_7cf53_15 (by decide) ?_
      refine pv_iret (pc := 19) dJ6_compare_7cf53_19 rfl rfl ?_
      refine ⟨congrArg (fun z => some (Value.int z)) ?_, rfl, rfl, rfl, rfl⟩
      first
        | (rw [if_pos (by first | exact h2 | exact Classical.not_not.mp h2)]; done)
        | (rw [if_neg (by first | exact h2 | exact fun q => h2 q), if_pos (by first | exact h11 | exact Classical.not_not.mp h11)]; done)
        | (rw [if_neg (by first | exact h2 | exact fun q => h2 q), if_neg (by first | exact h11 | exact fun q => h11 q)]; done)
  · refine pv_iconst (pc := 5) (v := (-1)) dJ6_compare_7cf53_5 (by decide) ?_
    refine pv_goto (pc := 6) (tgt := 19) dJ6_compare_7cf53_6 (by decide) ?_
    refine pv_iret (pc := 19) dJ6_compare_7cf53_19 rfl rfl ?_
    refine ⟨congrArg (fun z => some (Value.int z)) ?_, rfl, rfl, rfl, rfl⟩
    first
      | (rw [if_pos (by first | exact h2 | exact Classical.not_not.mp h2)]; done)
      | (rw [if_neg (by first | exact h2 | exact fun q => h2 q), if_pos (by first | exact h11 | exact Classical.not_not.mp h11)]; done)
      | (rw [if_neg (by first | exact h2 | exact fun q => h2 q), if_neg (by first | exact h11 | exact fun q => h11 q)]; done)

theorem x_lit3 : (1000 : Int32).toInt = 1000 := by decide
theorem x_cmp_end {a b c d : Int64} (h : n_ok a b) (g : n_ok c d) (h0 : b = 0 ∨ d = 0) : x_cmp a b c d = if (if b = 0 then (1 : Int32) else 0) < (if d = 0 then (1 : Int32) else 0) then -1 else if (if b = 0 then (1 : Int32) else 0) = (if d = 0 then (1 : Int32) else 0) then 0 else 1 := by
  unfold x_cmp
  rw [lt_end h g h0, lt_end g h (Or.comm.mp h0)]
  by_cases hb : b = 0 <;> by_cases hd : d = 0 <;> simp [hb, hd]
theorem x_cmp_ne {a b c d : Int64} (h : n_ok a b) (g : n_ok c d) (hb : ¬ b = 0) (hd : ¬ d = 0) (hk : ¬ s_floor a b = s_floor c d) : x_cmp a b c d = if s_floor a b < s_floor c d then -1 else if s_floor a b = s_floor c d then 0 else 1 := by
  unfold x_cmp
  rw [lt_ne h g hb hd hk, lt_ne g h hd hb (fun q => hk q.symm), if_neg hk]
  by_cases e : s_floor a b < s_floor c d
  · rw [if_pos e, decide_eq_true e, if_pos rfl]
  · rw [if_neg e, decide_eq_false e, if_neg (by decide), if_pos]
    refine decide_eq_true ?_
    rw [Int64.lt_iff_toInt_lt] at e ⊢
    rw [← Int64.toInt_inj] at hk
    omega
theorem x_cmp_eq {a b c d : Int64} (h : n_ok a b) (g : n_ok c d) (hb : ¬ b = 0) (hd : ¬ d = 0) (hk : s_floor a b = s_floor c d) : x_cmp a b c d = -x_cmp b (n_r a b) d (n_r c d) := by
  unfold x_cmp
  rw [lt_eq h g hb hd hk, lt_eq g h hd hb hk.symm]
  cases e : s_lt d (n_r c d) b (n_r a b) <;> cases f : s_lt b (n_r a b) d (n_r c d) <;> try decide
  exfalso
  unfold s_lt at e f
  simp only [decide_eq_true_eq] at e f
  omega
theorem n_half {a b : Int64} (h : n_ok a b) (hb : ¬ b = 0) (hr : ¬ n_r a b = 0) {k : Nat} (hk : b.toInt < 2 ^ (k + 1)) : (n_r b (n_r a b)).toInt < 2 ^ k := by
  obtain ⟨p, f1, f2, f3, f4⟩ := n_f h hb
  obtain ⟨p', g1, g2, g3, g4⟩ := n_f (n_nx h hb) hr
  have q1 : 1 ≤ b.toInt / (n_r a b).toInt := (Int.le_ediv_iff_mul_le p').mpr (by omega)
  have q2 : 1 * (n_r a b).toInt ≤ b.toInt / (n_r a b).toInt * (n_r a b).toInt := Int.mul_le_mul_of_nonneg_right q1 (by omega)
  rw [Int.pow_succ] at hk
  omega

set_option maxRecDepth 100000 in
set_option maxHeartbeats 4000000 in
theorem l_cmp_end {G : pv_G} {dd : Nat} {Q : pv_Q} {w1 w2 w3 w4 : Int64} {t : pv_T} {I : pv_I} {L : pv_L} {Rf : pv_R} {a b c d : Int64} {sg : Int32} {i : Nat} {l18 l20 l22 l24 : Value} (h1 : n_ok a b) (h2 : n_ok c d) (hi : i < 1000) (hd0 : 1 ≤ dd) (h0 : b = 0 ∨ d = 0) (hQ : Q (some (.int (sg * x_cmp a b c d))) t I L Rf) : pv_V G mX11_compare dd 0 0 Q 0 0 20 [.long w1, .retAddr 0, .long w2, .retAddr 0, .long w3, .retAddr 0, .long w4, .retAddr 0, .long a, .retAddr 0, .long b, .retAddr 0, .long c, .retAddr 0, .long d, .retAddr 0, .int sg, .int (Int32.ofNat i), l18, .retAddr 0, l20, .retAddr 0, l22, .retAddr 0, l24, .retAddr 0] [] t I L Rf := by
  rw [x_cmp_end h1 h2 h0] at hQ
  by_cases hb : b = 0
  · skip
    refine pv_iload_17 (pc := 20) dX11_compare_20 ?_
    refine pv_sipush (pc := 22) (v := 1000) dX11_compare_22 (by decide) ?_
    refine pv_icmp_ge (pc := 25) (tgt := 126) dX11_compare_25 (by decide) (fun h25 => absurd h25 (by have e := i_of (k := i) (by omega); have q := x_lit3; simp only [i_lt]; omega)) (fun h25 => ?_)
    refine pv_lload_10 (pc := 28) dX11_compare_28 ?_
    refine pv_lconst (pc := 30) (v := 0) dX11_compare_30 (by decide) ?_
    refine pv_lcmp_eq (pc := 31) (tgt := 126) dX11_compare_31 dX11_compare_32 (by decide) (fun h31 => ?_) (fun h31 => absurd h31 (not_not_intro hb))
    refine pv_iload_16 (pc := 126) dX11_compare_126 ?_
    refine pv_lload_10 (pc := 128) dX11_compare_128 ?_
    refine pv_lconst (pc := 130) (v := 0) dX11_compare_130 (by decide) ?_
    refine pv_lcmp_ne (pc := 131) (tgt := 139) dX11_compare_131 dX11_compare_132 (by decide) (fun h131 => absurd h131 (not_not_intro hb)) (fun h131 => ?_)
    refine pv_iconst (pc := 135) (v := 1) dX11_compare_135 (by decide) ?_
    refine pv_goto (pc := 136) (tgt := 140) dX11_compare_136 (by decide) ?_
    refine pv_lload_14 (pc := 140) dX11_compare_140 ?_
    refine pv_lconst (pc := 142) (v := 0) dX11_compare_142 (by decide) ?_
    refine pv_lcmp_ne (pc := 143) (tgt := 151) dX11_compare_143 dX11_compare_144 (by decide) (fun h143 => ?_) (fun h143 => ?_)
    · refine pv_iconst (pc := 151) (v := 0) dX11_compare_151 (by decide) ?_
      refine pv_callS1 (pc := 152) dX11_compare_152 mgJ6_compare_7cf53 ls_X11_362 (by omega) (c_J6_compare_7cf53 ) rfl rfl (Nat.le_of_ble_eq_true rfl) ?_
      refine pv_imul (pc := 155) dX11_compare_155 ?_
      refine pv_iret (pc := 156) dX11_compare_156 rfl rfl ?_
      simp only [if_pos hb] at hQ
      first
        | (have f1 := h143; rw [if_neg f1] at hQ; exact hQ)
        | (have f1 := h143; rw [if_pos (show d = 0 by first | exact f1 | exact Classical.not_not.mp f1)] at hQ; exact hQ)
    · refine pv_iconst (pc := 147) (v := 1) dX11_compare_147 (by decide) ?_
      refine pv_goto (pc := 148) (tgt := 152) dX11_compare_148 (by decide) ?_
      refine pv_callS1 (pc := 152) dX11_compare_152 mgJ6_compare_7cf53 ls_X11_362 (by omega) (c_J6_compare_7cf53 ) rfl rfl (Nat.le_of_ble_eq_true rfl) ?_
      refine pv_imul (pc := 155) dX11_compare_155 ?_
      refine pv_iret (pc := 156) dX11_compare_156 rfl rfl ?_
      simp only [if_pos hb] at hQ
      first
        | (have f1 := h143; rw [if_neg f1] at hQ; exact hQ)
        | (have f1 := h143; rw [if_pos (show d = 0 by first | exact f1 | exact Classical.not_not.mp f1)] at hQ; exact hQ)
  · have hd : d = 0 := h0.resolve_left hb
    refine pv_iload_17 (pc := 20) dX11_compare_20 ?_
    refine pv_sipush (pc := 22) (v := 1000) dX11_compare_22 (by decide) ?_
    refine pv_icmp_ge (pc := 25) (tgt := 126) dX11_compare_25 (by decide) (fun h25 => absurd h25 (by have e := i_of (k := i) (by omega); have q := x_lit3; simp only [i_lt]; omega)) (fun h25 => ?_)
    refine pv_lload_10 (pc := 28) dX11_compare_28 ?_
    refine pv_lconst (pc := 30) (v := 0) dX11_compare_30 (by decide) ?_
    refine pv_lcmp_eq (pc := 31) (tgt := 126) dX11_compare_31 dX11_compare_32 (by decide) (fun h31 => absurd h31 hb) (fun h31 => ?_)
    refine pv_lload_14 (pc := 35) dX11_compare_35 ?_
    refine pv_lconst (pc := 37) (v := 0) dX11_compare_37 (by decide) ?_
    refine pv_lcmp_eq (pc := 38) (tgt := 126) dX11_compare_38 dX11_compare_39 (by decide) (fun h38 => ?_) (fun h38 => absurd h38 (not_not_intro hd))
    refine pv_iload_16 (pc := 126) dX11_compare_126 ?_
    refine pv_lload_10 (pc := 128) dX11_compare_128 ?_
    refine pv_lconst (pc := 130) (v := 0) dX11_compare_130 (by decide) ?_
    refine pv_lcmp_ne (pc := 131) (tgt := 139) dX11_compare_131 dX11_compare_132 (by decide) (fun h131 => ?_) (fun h131 => absurd h131 hb)
    refine pv_iconst (pc := 139) (v := 0) dX11_compare_139 (by decide) ?_
    refine pv_lload_14 (pc := 140) dX11_compare_140 ?_
    refine pv_lconst (pc := 142) (v := 0) dX11_compare_142 (by decide) ?_
    refine pv_lcmp_ne (pc := 143) (tgt := 151) dX11_compare_143 dX11_compare_144 (by decide) (fun h143 => absurd h143 (not_not_intro hd)) (fun h143 => ?_)
    refine pv_iconst (pc := 147) (v := 1) dX11_compare_147 (by decide) ?_
    refine pv_goto (pc := 148) (tgt := 152) dX11_compare_148 (by decide) ?_
    refine pv_callS1 (pc := 152) dX11_compare_152 mgJ6_compare_7cf53 ls_X11_362 (by omega) (c_J6_compare_7cf53 ) rfl rfl (Nat.le_of_ble_eq_true rfl) ?_
    refine pv_imul (pc := 155) dX11_compare_155 ?_
    refine pv_iret (pc := 156) dX11_compare_156 rfl rfl ?_
    simp only [if_neg hb, if_pos hd] at hQ
    exact hQ

set_option maxRecDepth 100000 in
set_option maxHeartbeats 4000000 in
theorem l_cmp_ne {G : pv_G} {dd : Nat} {Q : pv_Q} {w1 w2 w3 w4 : Int64} {t : pv_T} {I : pv_I} {L : pv_L} {Rf : pv_R} {a b c d : Int64} {sg : Int32} {i : Nat} {l18 l20 l22 l24 : Value} (h1 : n_ok a b) (h2 : n_ok c d) (hi : i < 1000) (hd0 : 1 ≤ dd) (hb : ¬ b = 0) (hd : ¬ d = 0) (hk : ¬ s_floor a b = s_floor c d) (hQ : Q (some (.int (sg * x_cmp a b c d))) t I L Rf) : pv_V G mX11_compare dd 0 0 Q 0 0 20 [.long w1, .retAddr 0, .long w2, .retAddr 0, .long w3, .retAddr 0, .long w4, .retAddr 0, .long a, .retAddr 0, .long b, .retAddr 0, .long c, .retAddr 0, .long d, .retAddr 0, .int sg, .int (Int32.ofNat i), l18, .retAddr 0, l20, .retAddr 0, l22, .retAddr 0, l24, .retAddr 0] [] t I L Rf := by
  rw [x_cmp_ne h1 h2 hb hd hk] at hQ
  refine pv_iload_17 (pc := 20) dX11_compare_20 ?_
  refine pv_sipush (pc := 22) (v := 1000) dX11_compare_22 (by decide) ?_
  refine pv_icmp_ge (pc := 25) (tgt := 126) dX11_compare_25 (by decide) (fun h25 => absurd h25 (by have e := i_of (k := i) (by omega); have q := x_lit3; simp only [i_lt]; omega)) (fun h25 => ?_)
  refine pv_lload_10 (pc := 28) dX11_compare_28 ?_
  refine pv_lconst (pc := 30) (v := 0) dX11_compare_30 (by decide) ?_
  refine pv_lcmp_eq (pc := 31) (tgt := 126) dX11_compare_31 dX11_compare_32 (by decide) (fun h31 => absurd h31 hb) (fun h31 => ?_)
  refine pv_lload_14 (pc := 35) dX11_compare_35 ?_
  refine pv_lconst (pc := 37) (v := 0) dX11_compare_37 (by decide) ?_
  refine pv_lcmp_eq (pc := 38) (tgt := 126) dX11_compare_38 dX11_compare_39 (by decide) (fun h38 => absurd h38 hd) (fun h38 => ?_)
  refine pv_lload_8 (pc := 42) dX11_compare_42 ?_
  refine pv_lload_10 (pc := 44) dX11_compare_44 ?_
  refine pv_callS1 (pc := 46) dX11_compare_46 mgJ9_floorDiv_f86c9 ls_X11_354 (by omega) (c_J9_floorDiv_f86c9 (by have q1 := h1.1; have q2 : ¬ b.toInt = 0 := (fun q => hb (i0 q)); omega) (by have := h1.2.2; omega)) rfl rfl (by decide) ?_
  refine pv_lstore_18 (pc := 49) dX11_compare_49 (by decide) rfl ?_
  refine pv_lload_12 (pc := 51) dX11_compare_51 ?_
  refine pv_lload_14 (pc := 53) dX11_compare_53 ?_
  refine pv_callS1 (pc := 55) dX11_compare_55 mgJ9_floorDiv_f86c9 ls_X11_354 (by omega) (c_J9_floorDiv_f86c9 (by have q1 := h2.1; have q2 : ¬ d.toInt = 0 := (fun q => hd (i0 q)); omega) (by have := h2.2.2; omega)) rfl rfl (by decide) ?_
  refine pv_lstore_20 (pc := 58) dX11_compare_58 (by decide) rfl ?_
  refine pv_lload_18 (pc := 60) dX11_compare_60 ?_
  refine pv_lload_20 (pc := 62) dX11_compare_62 ?_
  refine pv_lcmp_eq (pc := 64) (tgt := 79) dX11_compare_64 dX11_compare_65 (by decide) (fun h64 => absurd h64 hk) (fun h64 => ?_)
  refine pv_iload_16 (pc := 68) dX11_compare_68 ?_
  refine pv_lload_18 (pc := 70) dX11_compare_70 ?_
  refine pv_lload_20 (pc := 72) dX11_compare_72 ?_
  refine pv_callS1 (pc := 74) dX11_compare_74 mgJ13_compare_74951 ls_X11_357 (by omega) (c_J13_compare_74951 ) rfl rfl (Nat.le_of_ble_eq_true rfl) ?_
  refine pv_imul (pc := 77) dX11_compare_77 ?_
  refine pv_iret (pc := 78) dX11_compare_78 rfl rfl ?_
  exact hQ

set_option maxRecDepth 100000 in
set_option maxHeartbeats 4000000 in
theorem l_cmp_eq {G : pv_G} {dd : Nat} {Q : pv_Q} {w1 w2 w3 w4 : Int64} {t : pv_T} {I : pv_I} {L : pv_L} {Rf : pv_R} {a b c d : Int64} {sg : Int32} {i : Nat} {l18 l20 l22 l24 : Value} (h1 : n_ok a b) (h2 : n_ok c d) (hi : i < 1000) (hd0 : 1 ≤ dd) (hb : ¬ b = 0) (hd : ¬ d = 0) (hk : s_floor a b = s_floor c d) (hQ : ∀ l18 l20 l22 l24, pv_V G mX11_compare dd 0 0 Q 0 0 20 [.long w1, .retAddr 0, .long w2, .retAddr 0, .long w3, .retAddr 0, .long w4, .retAddr 0, .long b, .retAddr 0, .long (n_r a b), .retAddr 0, .long d, .retAddr 0, .long (n_r c d), .retAddr 0, .int (-sg), .int (Int32.ofNat (i + 1)), l18, .retAddr 0, l20, .retAddr 0, l22, .retAddr 0, l24, .retAddr 0] [] t I L Rf) : pv_V G mX11_compare dd 0 0 Q 0 0 20 [.long w1, .retAddr 0, .long w2, .retAddr 0, .long w3, .retAddr 0, .long w4, .retAddr 0, .long a, .retAddr 0, .long b, .retAddr 0, .long c, .retAddr 0, .long d, .retAddr 0, .int sg, .int (Int32.ofNat i), l18, .retAddr 0, l20, .retAddr 0, l22, .retAddr 0, l24, .retAddr 0] [] t I L Rf := by
  refine pv_iload_17 (pc := 20) dX11_compare_20 ?_
  refine pv_sipush (pc := 22) (v := 1000) dX11_compare_22 (by decide) ?_
  refine pv_icmp_ge (pc := 25) (tgt := 126) dX11_compare_25 (by decide) (fun h25 => absurd h25 (by have e := i_of (k := i) (by omega); have q := x_lit3; simp only [i_lt]; omega)) (fun h25 => ?_)
  refine pv_lload_10 (pc := 28) dX11_compare_28 ?_
  refine pv_lconst (pc := 30) (v := 0) dX11_compare_30 (by decide) ?_
  refine pv_lcmp_eq (pc := 31) (tgt := 126) dX11_compare_31 dX11_compare_32 (by decide) (fun h31 => absurd h31 hb) (fun h31 => ?_)
  refine pv_lload_14 (pc := 35) dX11_compare_35 ?_
  refine pv_lconst (pc := 37) (v := 0) dX11_compare_37 (by decide) ?_
  refine pv_lcmp_eq (pc := 38) (tgt := 126) dX11_compare_38 dX11_compare_39 (by decide) (fun h38 => absurd h38 hd) (fun h38 => ?_)
  refine pv_lload_8 (pc := 42) dX11_compare_42 ?_
  refine pv_lload_10 (pc := 44) dX11_compare_44 ?_
  refine pv_callS1 (pc := 46) dX11_compare_46 mgJ9_floorDiv_f86c9 ls_X11_354 (by omega) (c_J9_floorDiv_f86c9 (by have q1 := h1.1; have q2 : ¬ b.toInt = 0 := (fun q => hb (i0 q)); omega) (by have := h1.2.2; omega)) rfl rfl (by decide) ?_
  refine pv_lstore_18 (pc := 49) dX11_compare_49 (by decide) rfl ?_
  refine pv_lload_12 (pc := 51) dX11_compare_51 ?_
  refine pv_lload_14 (pc := 53) dX11_compare_53 ?_
  refine pv_callS1 (pc := 55) dX11_compare_55 mgJ9_floorDiv_f86c9 ls_X11_354 (by omega) (c_J9_floorDiv_f86c9 (by have q1 := h2.1; have q2 : ¬ d.toInt = 0 := (fun q => hd (i0 q)); omega) (by have := h2.2.2; omega)) rfl rfl (by decide) ?_
  refine pv_lstore_20 (pc := 58) dX11_compare_58 (by decide) rfl ?_
  refine pv_lload_18 (pc := 60) dX11_compare_60 ?_
  refine pv_lload_20 (pc := 62) dX11_compare_62 ?_
  refine pv_lcmp_eq (pc := 64) (tgt := 79) dX11_compare_64 dX11_compare_65 (by decide) (fun h64 => ?_) (fun h64 => absurd h64 (not_not_intro hk))
  refine pv_lload_8 (pc := 79) dX11_compare_79 ?_
  refine pv_lload_18 (pc := 81) dX11_compare_81 ?_
  refine pv_lload_10 (pc := 83) dX11_compare_83 ?_
  refine pv_lmul (pc := 85) dX11_compare_85 ?_
  refine pv_lsub (pc := 86) dX11_compare_86 ?_
  refine pv_lstore_22 (pc := 87) dX11_compare_87 (by decide) rfl ?_
  refine pv_lload_12 (pc := 89) dX11_compare_89 ?_
  refine pv_lload_18 (pc := 91) dX11_compare_91 ?_
  refine pv_lload_14 (pc := 93) dX11_compare_93 ?_
  refine pv_lmul (pc := 95) dX11_compare_95 ?_
  refine pv_lsub (pc := 96) dX11_compare_96 ?_
  refine pv_lstore_24 (pc := 97) dX11_compare_97 (by decide) rfl ?_
  refine pv_lload_10 (pc := 99) dX11_compare_99 ?_
  refine pv_lstore_8 (pc := 101) dX11_compare_101 (by decide) rfl ?_
  refine pv_lload_22 (pc := 103) dX11_compare_103 ?_
  refine pv_lstore_10 (pc := 105) dX11_compare_105 (by decide) rfl ?_
  refine pv_lload_14 (pc := 107) dX11_compare_107 ?_
  refine pv_lstore_12 (pc := 109) dX11_compare_109 (by decide) rfl ?_
  refine pv_lload_24 (pc := 111) dX11_compare_111 ?_
  refine pv_lstore_14 (pc := 113) dX11_compare_113 (by decide) rfl ?_
  refine pv_iload_16 (pc := 115) dX11_compare_115 ?_
  refine pv_ineg (pc := 117) dX11_compare_117 ?_
  refine pv_istore_16 (pc := 118) dX11_compare_118 (by decide) rfl ?_
  refine pv_iinc_17 (pc := 120) (v := _ + 1) dX11_compare_120 rfl (by decide) rfl ?_
  refine pv_goto (pc := 123) (tgt := 20) dX11_compare_123 (by decide) ?_
  rw [i_inc]
  have hQ2 := hQ (.long (s_floor a b)) (.long (s_floor c d)) (.long (n_r a b)) (.long (n_r c d))
  unfold n_r at hQ2
  rw [← hk] at hQ2 ⊢
  exact hQ2

theorem l_cmp {G : pv_G} {dd : Nat} {Q : pv_Q} {w1 w2 w3 w4 : Int64} {t : pv_T} {I : pv_I} {L : pv_L} {Rf : pv_R} (hd0 : 1 ≤ dd) {r : Int32} (hQ : Q (some (.int r)) t I L Rf) : ∀ (k i : Nat) (a b c d : Int64) (sg : Int32) (l18 l20 l22 l24 : Value), n_ok a b → n_ok c d → b.toInt < 2 ^ k → i + 2 * k + 2 < 1000 → sg * x_cmp a b c d = r → pv_V G mX11_compare dd 0 0 Q 0 0 20 [.long w1, .retAddr 0, .long w2, .retAddr 0, .long w3, .retAddr 0, .long w4, .retAddr 0, .long a, .retAddr 0, .long b, .retAddr 0, .long c, .retAddr 0, .long d, .retAddr 0, .int sg, .int (Int32.ofNat i), l18, .retAddr 0, l20, .retAddr 0, l22, .retAddr 0, l24, .retAddr 0] [] t I L Rf := by
  intro k
  induction k with
  | zero =>
    intro i a b c d sg l18 l20 l22 l24 h1 h2 hk hi hr
    have hb : b = 0 := i0 (by have := h1.1; have e : (2 : Int) ^ 0 = 1 := rfl; omega)
    exact l_cmp_end h1 h2 (by omega) hd0 (Or.inl hb) (by rw [hr]; exact hQ)
  | succ k ih =>
    intro i a b c d sg l18 l20 l22 l24 h1 h2 hk hi hr
    by_cases h0 : b = 0 ∨ d = 0
    · exact l_cmp_end h1 h2 (by omega) hd0 h0 (by rw [hr]; exact hQ)
    · have hb : ¬ b = 0 := fun q => h0 (Or.inl q)
      have hd : ¬ d = 0 := fun q => h0 (Or.inr q)
      by_cases hf : s_floor a b = s_floor c d
      · refine l_cmp_eq h1 h2 (by omega) hd0 hb hd hf (fun m18 m20 m22 m24 => ?_)
        have g1 := n_nx h1 hb
        have g2 := n_nx h2 hd
        have hr2 : -sg * x_cmp b (n_r a b) d (n_r c d) = r := by rw [← hr, x_cmp_eq h1 h2 hb hd hf]; grind
        by_cases k0 : n_r a b = 0 ∨ n_r c d = 0
        · exact l_cmp_end g1 g2 (by omega) hd0 k0 (by rw [hr2]; exact hQ)
        · have kb : ¬ n_r a b = 0 := fun q => k0 (Or.inl q)
          have kd : ¬ n_r c d = 0 := fun q => k0 (Or.inr q)
          by_cases kf : s_floor b (n_r a b) = s_floor d (n_r c d)
          · refine l_cmp_eq g1 g2 (by omega) hd0 kb kd kf (fun o18 o20 o22 o24 => ?_)
            refine ih (i + 1 + 1) _ _ _ _ _ _ _ _ _ (n_nx g1 kb) (n_nx g2 kd) (n_half h1 hb kb hk) (by omega) ?_
            rw [← hr2, x_cmp_eq g1 g2 kb kd kf]; grind
          · exact l_cmp_ne g1 g2 (by omega) hd0 kb kd kf (by rw [hr2]; exact hQ)
      · exact l_cmp_ne h1 h2 (by omega) hd0 hb hd hf (by rw [hr]; exact hQ)
set_option maxRecDepth 100000 in
set_option maxHeartbeats 4000000 in
theorem c_X11_compare {G : pv_G} {d : Nat} {a b c e : Int64} {t : pv_T} {I : pv_I} {L : pv_L} {Rf : pv_R} (h1 : n_ok a b) (h2 : n_ok c e) (hd : 1 ≤ d) : pv_Mt G mX11_compare d 0 0 [.long a, .long b, .long c, .long e] t I L Rf (pv_is (some (.int (x_cmp a b c e))) t I L Rf) := by
  refine pv_mt mgX11_compare.2.2.2.2.2 [.long a, .retAddr 0, .long b, .retAddr 0, .long c, .retAddr 0, .long e, .retAddr 0, .retAddr 0, .retAddr 0, .retAddr 0, .retAddr 0, .retAddr 0, .retAddr 0, .retAddr 0, .retAddr 0, .retAddr 0, .retAddr 0, .retAddr 0, .retAddr 0, .retAddr 0, .retAddr 0, .retAddr 0, .retAddr 0, .retAddr 0, .retAddr 0] rfl (Nat.le_of_ble_eq_true rfl) ?_
  refine pv_lload_0 (pc := 0) dX11_compare_0 ?_
  refine pv_lstore_8 (pc := 1) dX11_compare_1 (by decide) rfl ?_
  refine pv_lload_2 (pc := 3) dX11_compare_3 ?_
  refine pv_lstore_10 (pc := 4) dX11_compare_4 (by decide) rfl ?_
  refine pv_lload_4 (pc := 6) dX11_compare_6 ?_
  refine pv_lstore_12 (pc := 8) dX11_compare_8 (by decide) rfl ?_
  refine pv_lload_6 (pc := 10) dX11_compare_10 ?_
  refine pv_lstore_14 (pc := 12) dX11_compare_12 (by decide) rfl ?_
  refine pv_iconst (pc := 14) (v := 1) dX11_compare_14 (by decide) ?_
  refine pv_istore_16 (pc := 15) dX11_compare_15 (by decide) rfl ?_
  refine pv_iconst (pc := 17) (v := 0) dX11_compare_17 (by decide) ?_
  refine pv_istore_17 (pc := 18) dX11_compare_18 (by decide) rfl ?_
  exact l_cmp hd ⟨rfl, rfl, rfl, rfl, rfl⟩ 40 0 _ _ _ _ _ _ _ _ _ h1 h2 (by have := h1.2.1; omega) (by decide) (by grind)

