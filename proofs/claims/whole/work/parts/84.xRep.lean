/-! part 84 -/
/-! rows of numbers that go on by a rule of two terms -/
def q_rec (b : Int) (m : Nat) (x : Nat → Int) : Prop := ∀ r, x (r + 2 * m) = b * x (r + m) - x r
theorem q_dbl {b : Int} {m : Nat} {x : Nat → Int} (h : q_rec b m x) : q_rec (b * b - 2) (2 * m) x := by
  intro r
  have h0 := h r
  have h1 := h (r + m)
  have h2 := h (r + 2 * m)
  rw [show r + m + 2 * m = r + 3 * m by omega, show r + m + m = r + 2 * m by omega] at h1
  rw [show r + 2 * m + 2 * m = r + 4 * m by omega, show r + 2 * m + m = r + 3 * m by omega] at h2
  rw [show r + 2 * (2 * m) = r + 4 * m by omega, h2, h1]
  have e : b * x (r + m) = x (r + 2 * m) + x r := by omega
  have e2 : b * (b * x (r + 2 * m) - x (r + m)) = b * b * x (r + 2 * m) - b * x (r + m) := by grind
  rw [e2, e, Int.sub_mul]
  omega
theorem q_tri {b : Int} {m : Nat} {x : Nat → Int} (h : q_rec b m x) : q_rec (b * b * b - 3 * b) (3 * m) x := by
  intro r
  have h0 := h r
  have h1 := h (r + m)
  have h2 := h (r + 2 * m)
  have h3 := h (r + 3 * m)
  have h4 := h (r + 4 * m)
  rw [show r + m + 2 * m = r + 3 * m by omega, show r + m + m = r + 2 * m by omega] at h1
  rw [show r + 2 * m + 2 * m = r + 4 * m by omega, show r + 2 * m + m = r + 3 * m by omega] at h2
  rw [show r + 3 * m + 2 * m = r + 5 * m by omega, show r + 3 * m + m = r + 4 * m by omega] at h3
  rw [show r + 4 * m + 2 * m = r + 6 * m by omega, show r + 4 * m + m = r + 5 * m by omega] at h4
  rw [show r + 2 * (3 * m) = r + 6 * m by omega]
  generalize x r = x0 at *
  generalize x (r + m) = x1 at *
  generalize x (r + 2 * m) = x2 at *
  generalize x (r + 3 * m) = x3 at *
  generalize x (r + 4 * m) = x4 at *
  generalize x (r + 5 * m) = x5 at *
  generalize x (r + 6 * m) = x6 at *
  grind
def q_T (b : Int) : Int := ((b * b * b - 3 * b) * (b * b * b - 3 * b) - 2) * ((b * b * b - 3 * b) * (b * b * b - 3 * b) - 2) - 2
theorem q_12 {b : Int} {x : Nat → Int} (h : q_rec b 1 x) : q_rec (q_T b) 12 x := q_dbl (q_dbl (q_tri h))
theorem q_big {b : Int} (h : 3 ≤ b ∨ b ≤ -3) : 3 ≤ q_T b := by
  have key : ∀ c : Int, 3 ≤ c → 18 ≤ c * c * c - 3 * c := by
    intro c hc
    have h1 : 9 ≤ c * c := by
      have := Int.mul_le_mul hc hc (by omega) (by omega)
      omega
    have h2 : 3 * 6 ≤ c * (c * c - 3) := Int.mul_le_mul hc (by omega) (by omega) (by omega)
    have e : c * (c * c - 3) = c * c * c - 3 * c := by grind
    omega
  have key2 : ∀ y : Int, 18 ≤ y → 3 ≤ (y * y - 2) * (y * y - 2) - 2 := by
    intro y hy
    have h1 : 18 * 18 ≤ y * y := Int.mul_le_mul hy hy (by omega) (by omega)
    have h2 : 322 * 322 ≤ (y * y - 2) * (y * y - 2) := Int.mul_le_mul (by omega) (by omega) (by omega) (by omega)
    omega
  unfold q_T
  rcases h with h | h
  · exact key2 _ (key b h)
  · have k := key (-b) (by omega)
    have e : -b * -b * -b - 3 * -b = -(b * b * b - 3 * b) := by grind
    rw [e] at k
    have k2 := key2 _ k
    have e2 : -(b * b * b - 3 * b) * -(b * b * b - 3 * b) = (b * b * b - 3 * b) * (b * b * b - 3 * b) := by grind
    rw [e2] at k2
    exact k2
theorem q_sq8 (T : Int) (h : T * T = 8) : False := by
  have h1 : T ≤ 2 ∨ 3 ≤ T := by omega
  have h2 : -2 ≤ T ∨ T ≤ -3 := by omega
  rcases h1 with h1 | h1
  · rcases h2 with h2 | h2
    · have : T = -2 ∨ T = -1 ∨ T = 0 ∨ T = 1 ∨ T = 2 := by omega
      rcases this with rfl | rfl | rfl | rfl | rfl <;> revert h <;> decide
    · have := Int.mul_le_mul (show 3 ≤ -T by omega) (show 3 ≤ -T by omega) (by omega) (by omega)
      have e : -T * -T = T * T := by grind
      omega
  · have := Int.mul_le_mul h1 h1 (by omega) (by omega)
    omega
/-- a straight line, of either sign: then the rule is one of five, and the sign is this -/
theorem q_acc {b : Int} {p q : Nat → Int} (hp : q_rec b 1 p) (hq : q_rec b 1 q) {a11 a12 a21 a22 : Int} (hA1 : p 24 = a11 * p 12 + a12 * q 12) (hA2 : q 24 = a21 * p 12 + a22 * q 12) (hA3 : p 12 = a11 * p 0 + a12 * q 0) (hA4 : q 12 = a21 * p 0 + a22 * q 0) (h0 : p 0 ≠ 0 ∨ q 0 ≠ 0) (h12 : p 12 ≠ 0 ∨ q 12 ≠ 0) {s e : Int} (hs : s = 1 ∨ s = -1) (he : e = 1 ∨ e = -1) (h1 : 2 * (s * p 12) - p 0 = e * p 24) (h2 : 2 * (s * q 12) - q 0 = e * q 24) : s = 1 ∧ (-2 ≤ b ∧ b ≤ 2) := by
  have P := q_12 hp 0
  have Q := q_12 hq 0
  have P : p 24 = q_T b * p 12 - p 0 := P
  have Q : q 24 = q_T b * q 12 - q 0 := Q
  have hT : q_T b = 2 * s := by
    rcases he with rfl | rfl
    · have g1 : (2 * s - q_T b) * p 12 = 0 := by grind
      have g2 : (2 * s - q_T b) * q 12 = 0 := by grind
      rcases h12 with g | g
      · rcases Int.mul_eq_zero.mp g1 with k | k
        · omega
        · exact absurd k g
      · rcases Int.mul_eq_zero.mp g2 with k | k
        · omega
        · exact absurd k g
    · exfalso
      have g1 : (2 * s + q_T b) * p 12 = 2 * p 0 := by grind
      have g2 : (2 * s + q_T b) * q 12 = 2 * q 0 := by grind
      have g3 : (2 * s + q_T b) * p 24 = 2 * p 12 := by rw [hA1, hA3]; grind
      have g4 : (2 * s + q_T b) * q 24 = 2 * q 12 := by rw [hA2, hA4]; grind
      have ss : s * s = 1 := by rcases hs with rfl | rfl <;> decide
      have g5 : (q_T b - 2 * s) * p 0 = 2 * p 12 := by grind
      have g6 : (q_T b - 2 * s) * q 0 = 2 * q 12 := by grind
      have g7 : (q_T b * q_T b - 8) * p 0 = 0 := by grind
      have g8 : (q_T b * q_T b - 8) * q 0 = 0 := by grind
      have g9 : q_T b * q_T b - 8 = 0 := by
        rcases h0 with g | g
        · rcases Int.mul_eq_zero.mp g7 with k | k
          · exact k
          · exact absurd k g
        · rcases Int.mul_eq_zero.mp g8 with k | k
          · exact k
          · exact absurd k g
      exact q_sq8 (q_T b) (by omega)
  have hb : -2 ≤ b ∧ b ≤ 2 := by
    apply Classical.byContradiction
    intro g
    have := q_big (b := b) (by omega)
    omega
  refine ⟨?_, hb⟩
  have : b = -2 ∨ b = -1 ∨ b = 0 ∨ b = 1 ∨ b = 2 := by omega
  have hT2 : q_T b = 2 := by rcases this with rfl | rfl | rfl | rfl | rfl <;> decide
  omega
/-- then every row of such a rule is a straight line, or goes round -/
theorem q_line {x : Nat → Int} (h : q_rec 2 1 x) : ∀ r : Nat, x r = x 0 + r * (x 1 - x 0) ∧ x (r + 1) = x 0 + (r + 1 : Nat) * (x 1 - x 0)
  | 0 => ⟨by simp, by simp; omega⟩
  | r + 1 => by
    have ih := q_line h r
    refine ⟨ih.2, ?_⟩
    have g := h r
    rw [show r + 2 * 1 = r + 1 + 1 by omega, ih.2, ih.1] at g
    rw [g]
    push_cast
    grind
def q_alt (x : Nat → Int) : Nat → Int := fun r => if r % 2 = 0 then x r else -x r
theorem q_alt_rec {x : Nat → Int} (h : q_rec (-2) 1 x) : q_rec 2 1 (q_alt x) := by
  intro r
  have g := h r
  unfold q_alt
  rw [show r + 2 * 1 = r + 2 by omega] at g ⊢
  rw [show (r + 2) % 2 = r % 2 by omega]
  by_cases e : r % 2 = 0
  · rw [if_pos e, if_pos e, if_neg (by omega)]; omega
  · rw [if_neg e, if_neg e, if_pos (by omega)]; omega
theorem q_per {b : Int} {x : Nat → Int} (h : q_rec b 1 x) (hb : b = 0 ∨ b = 1 ∨ b = -1) : ∀ r, x (r + 12) = x r := by
  intro r
  have h0 := h r
  have h1 := h (r + 1)
  have h2 := h (r + 2)
  have h3 := h (r + 3)
  have h4 := h (r + 4)
  have h5 := h (r + 5)
  have h6 := h (r + 6)
  have h7 := h (r + 7)
  have h8 := h (r + 8)
  have h9 := h (r + 9)
  have h10 := h (r + 10)
  simp only [Nat.add_assoc, Nat.reduceMul, Nat.reduceAdd] at *
  rcases hb with rfl | rfl | rfl <;> omega
def q_in (M x : Int) : Prop := -M ≤ x ∧ x ≤ M
theorem q_mid {M a w : Int} {r n : Nat} (hr : r ≤ n) (h0 : q_in M a) (hn : q_in M (a + n * w)) : q_in M (a + r * w) := by
  unfold q_in at *
  by_cases hw : 0 ≤ w
  · have h1 : (r : Int) * w ≤ n * w := Int.mul_le_mul_of_nonneg_right (by omega) hw
    have h2 : 0 ≤ (r : Int) * w := Int.mul_nonneg (by omega) hw
    omega
  · have h1 : (r : Int) * (-w) ≤ n * (-w) := Int.mul_le_mul_of_nonneg_right (by omega) (by omega)
    have h2 : 0 ≤ (r : Int) * (-w) := Int.mul_nonneg (by omega) (by omega)
    rw [Int.mul_neg] at h1 h2
    rw [Int.mul_neg] at h1
    omega
theorem q_fill {b M : Int} {x : Nat → Int} (h : q_rec b 1 x) (hb : -2 ≤ b ∧ b ≤ 2) {t : Nat} (ht : 0 < t) (h24 : ∀ r, r < 24 → q_in M (x r)) (hl : q_in M (x (t - 1))) : ∀ r, r < t → q_in M (x r) := by
  have hc : b = 2 ∨ b = -2 ∨ (b = 0 ∨ b = 1 ∨ b = -1) := by omega
  rcases hc with rfl | rfl | hc
  · intro r hr
    have g := q_line h
    rw [(g r).1]
    rw [(g (t - 1)).1] at hl
    exact q_mid (n := t - 1) (by omega) (h24 0 (by omega)) hl
  · intro r hr
    have g := q_line (q_alt_rec h)
    have k : ∀ r, q_in M (q_alt x r) ↔ q_in M (x r) := by
      intro r
      unfold q_alt q_in
      split <;> omega
    rw [← k, (g r).1]
    rw [← k, (g (t - 1)).1] at hl
    exact q_mid (n := t - 1) (by omega) ((k 0).mpr (h24 0 (by omega))) hl
  · have g := q_per h hc
    have g2 : ∀ m r, x (r + 12 * m) = x r := by
      intro m
      induction m with
      | zero => intro r; rfl
      | succ m ih => intro r; rw [show r + 12 * (m + 1) = r + 12 * m + 12 by omega, g, ih]
    intro r _
    have := g2 (r / 12) (r % 12)
    rw [Nat.mod_add_div] at this
    rw [this]
    exact h24 _ (by omega)
theorem q_jump {b : Int} {x : Nat → Int} (h : q_rec b 1 x) (hb : -2 ≤ b ∧ b ≤ 2) (k : Nat) : x (12 * k) = x 0 + k * (x 12 - x 0) := by
  have hc : b = 2 ∨ b = -2 ∨ (b = 0 ∨ b = 1 ∨ b = -1) := by omega
  rcases hc with rfl | rfl | hc
  · have g := q_line h
    rw [(g (12 * k)).1, (g 12).1]
    push_cast
    grind
  · have g := q_line (q_alt_rec h)
    have e : ∀ j, q_alt x (12 * j) = x (12 * j) := fun j => by unfold q_alt; rw [if_pos (by omega)]
    have e0 := e 0
    have e1 := e 1
    rw [← e k, (g (12 * k)).1]
    have g12 := (g 12).1
    rw [show (12 : Nat) = 12 * 1 from rfl, e1] at g12
    rw [show 12 * 0 = 0 from rfl] at e0
    rw [show 12 * 1 = 12 from rfl] at g12
    rw [g12, e0]
    push_cast
    grind
  · have g := q_per h hc
    have g2 : ∀ m, x (12 * m) = x 0 := by
      intro m
      induction m with
      | zero => rfl
      | succ m ih => rw [show 12 * (m + 1) = 12 * m + 12 by omega, g, ih]
    rw [g2, show (12 : Nat) = 0 + 12 from rfl, g]
    simp
/-! a dance as a table of four numbers -/
abbrev VT : Type := Int × Int
def mt_ap (A : MT) (w : VT) : VT := (A.1 * w.1 + A.2.1 * w.2, A.2.2.1 * w.1 + A.2.2.2 * w.2)
def mt_mul (F A : MT) : MT := (F.1 * A.1 + F.2.1 * A.2.2.1, F.1 * A.2.1 + F.2.1 * A.2.2.2, F.2.2.1 * A.1 + F.2.2.2 * A.2.2.1, F.2.2.1 * A.2.1 + F.2.2.2 * A.2.2.2)
def mt_det (A : MT) : Int := A.1 * A.2.2.2 - A.2.1 * A.2.2.1
theorem mt_ap_mul (F A : MT) (w : VT) : mt_ap (mt_mul F A) w = mt_ap F (mt_ap A w) := by
  unfold mt_ap mt_mul
  refine Prod.ext ?_ ?_ <;> grind
theorem mt_det_mul (F A : MT) : mt_det (mt_mul F A) = mt_det F * mt_det A := by
  unfold mt_det mt_mul
  grind
/-- a number is this vector, of either sign -/
def re2 (w : VT) (p q : Int64) : Prop := (p.toInt = w.1 ∧ q.toInt = w.2) ∨ (-p.toInt = w.1 ∧ -q.toInt = w.2)
def vin (w : VT) : Prop := q_in 1000000000000 w.1 ∧ q_in 1000000000000 w.2
def fm (k a : Int32) : MT := if s_isC k = true then (1, (f_m k a).toInt, 0, 1) else if s_isT k = true ∧ f_n k a % 2 = 1 then (0, -1, 1, 0) else (1, 0, 0, 1)
theorem fm_det (k a : Int32) : mt_det (fm k a) = 1 := by
  unfold mt_det fm
  split
  · simp
  · split <;> decide
theorem f_m_b {k a : Int32} (ha : 0 ≤ a.toInt ∧ a.toInt ≤ 9) : -9 ≤ (f_m k a).toInt ∧ (f_m k a).toInt ≤ 9 := by
  unfold f_m
  split
  · decide
  · split
    · decide
    · omega
theorem fg_re {k a : Int32} {p q : Int64} {w : VT} (hN : s_isN p q) (ha : 0 ≤ a.toInt ∧ a.toInt ≤ 9) (h : re2 w p q) : re2 (mt_ap (fm k a) w) (f_P k a p q) (f_Q k a p q) ∧ (y_mv k a p q = true ↔ vin (mt_ap (fm k a) w)) := by
  have hr := y_mv_room (k := k) hN ha
  have hb := f_m_b (k := k) ha
  obtain ⟨n1, n2, n3, n4, -⟩ := id hN
  have hre : re2 (mt_ap (fm k a) w) (f_P k a p q) (f_Q k a p q) := by
    unfold f_P f_Q fm
    by_cases hc : s_isC k = true
    · rw [if_pos hc, if_pos hc, if_pos hc]
      have hm : -9000000000000 ≤ (f_m k a).toInt * q.toInt ∧ (f_m k a).toInt * q.toInt ≤ 9000000000000 := by
        have a1 : (f_m k a).toInt * q.toInt ≤ 9 * q.toInt := Int.mul_le_mul_of_nonneg_right hb.2 n1
        have a2 : -9 * q.toInt ≤ (f_m k a).toInt * q.toInt := Int.mul_le_mul_of_nonneg_right hb.1 n1
        omega
      have e : (p + (f_m k a).toInt64 * q).toInt = p.toInt + (f_m k a).toInt * q.toInt := by
        rw [Int64.toInt_add, Int64.toInt_mul, Int32.toInt_toInt64, l64 (a := (f_m k a).toInt * q.toInt) (by omega), l64 (by omega)]
      unfold re2 mt_ap at *
      simp only [e, Int.one_mul, Int.zero_mul, Int.zero_add]
      rcases h with ⟨h1, h2⟩ | ⟨h1, h2⟩
      · left; rw [← h1, ← h2]; exact ⟨rfl, rfl⟩
      · right; rw [← h1, ← h2, Int.mul_neg]; exact ⟨by omega, rfl⟩
    · rw [if_neg hc, if_neg hc, if_neg hc]
      by_cases g : s_isT k = true ∧ f_n k a % 2 = 1
      · rw [if_pos g, if_pos g, if_pos g]
        have o := on_i (gd_isN hN) (by omega)
        rw [show s_stp 2 (p, q) = (s_stepP 2 p q, s_stepQ 2 p q) from rfl] at o
        simp only at o
        generalize s_stepP 2 p q = P at *
        generalize s_stepQ 2 p q = Q at *
        unfold re2 mt_ap at *
        simp only [Int.one_mul, Int.zero_mul, Int.zero_add, Int.add_zero]
        omega
      · rw [if_neg g, if_neg g, if_neg g]
        unfold re2 mt_ap at *
        simp only [Int.one_mul, Int.zero_mul, Int.zero_add, Int.add_zero]
        omega
  refine ⟨hre, fun hy => ?_, fun hv => ?_⟩
  · obtain ⟨m1, m2, m3, m4, -⟩ := hr.2 hy
    unfold vin q_in
    unfold re2 at hre
    omega
  · rw [hr.1]
    unfold vin q_in at hv
    unfold re2 at hre
    unfold s_room
    simp only [Bool.and_eq_true, decide_eq_true_eq, Int64.le_iff_toInt_le, (show (1000000000000 : Int64).toInt = 1000000000000 from by decide), (show (-1000000000000 : Int64).toInt = -1000000000000 from by decide)]
    omega
def gk (C : Nat → Int64) (i : Nat) : Nat := (C i).toInt32.toNatClampNeg
def mt_ch (J : pv_I) (C : Nat → Int64) : Nat → Nat → MT
  | 0, _ => (1, 0, 0, 1)
  | m + 1, i => mt_mul (mt_ch J C m (i + 1)) (fm (J 1 (gk C i)) (J 2 (gk C i)))
def c_ch (J : pv_I) (C : Nat → Int64) : Nat → Nat → (Nat → Int32) → (Nat → Int32)
  | 0, _, c => c
  | m + 1, i, c => c_ch J C m (i + 1) (f_C (J 1 (gk C i)) (J 2 (gk C i)) c)
theorem mt_ap_1 (w : VT) : mt_ap (1, 0, 0, 1) w = w := by
  unfold mt_ap
  refine Prod.ext ?_ ?_ <;> simp
theorem mt_ch_det (J : pv_I) (C : Nat → Int64) : ∀ m i, mt_det (mt_ch J C m i) = 1
  | 0, _ => by rw [mt_ch]; decide
  | m + 1, i => by rw [mt_ch, mt_det_mul, mt_ch_det J C m, fm_det]; rfl
/-- all of it are figures -/
def figs (J : pv_I) (C : Nat → Int64) (n : Nat) : Prop := ∀ i, i < n → w_isF J (C i).toInt32 ∧ (0 ≤ (J 2 (gk C i)).toInt ∧ (J 2 (gk C i)).toInt ≤ 9)
theorem led_vin {J : pv_I} {C : Nat → Int64} {n : Nat} (hf : figs J C n) : ∀ (m i : Nat) (s : YS) (w : VT), i + m ≤ n → s_isN s.2.2.1 s.2.2.2.1 → re2 w s.2.2.1 s.2.2.2.1 → ((y_led J C m i s).1 = i + m ↔ ∀ j, 1 ≤ j → j ≤ m → vin (mt_ap (mt_ch J C j i) w)) ∧ ((y_led J C m i s).1 = i + m → s_isN (y_led J C m i s).2.2.2.1 (y_led J C m i s).2.2.2.2.1 ∧ re2 (mt_ap (mt_ch J C m i) w) (y_led J C m i s).2.2.2.1 (y_led J C m i s).2.2.2.2.1 ∧ (y_led J C m i s).2.2.2.2.2 = c_ch J C m i s.2.2.2.2)
  | 0, i, s, w, _, hN, hre => by
    rw [y_led]
    exact ⟨⟨fun _ j h1 h2 => by omega, fun _ => rfl⟩, fun _ => ⟨hN, by rw [mt_ch, mt_ap_1]; exact hre, rfl⟩⟩
  | m + 1, i, s, w, hi, hN, hre => by
    obtain ⟨hfi, ha⟩ := hf i (by omega)
    obtain ⟨f1, f2⟩ := fg_re (k := J 1 (gk C i)) hN ha hre
    have hcan : y_can J (C i).toInt32 s = y_mv (J 1 (gk C i)) (J 2 (gk C i)) s.2.2.1 s.2.2.2.1 := by
      unfold y_can gk
      rw [decide_eq_true hfi.1, decide_eq_true hfi.2]; rfl
    have hap : ∀ j, mt_ap (mt_ch J C (j + 1) i) w = mt_ap (mt_ch J C j (i + 1)) (mt_ap (fm (J 1 (gk C i)) (J 2 (gk C i))) w) := fun j => by rw [mt_ch, mt_ap_mul]
    rw [y_led, hcan]
    cases hy : y_mv (J 1 (gk C i)) (J 2 (gk C i)) s.2.2.1 s.2.2.2.1 with
    | false =>
      rw [if_neg (by decide)]
      refine ⟨⟨fun h => by exact absurd (show i = i + (m + 1) from h) (by omega), fun h => ?_⟩, fun h => absurd (show i = i + (m + 1) from h) (by omega)⟩
      have := h 1 (by omega) (by omega)
      rw [hap 0, mt_ch, mt_ap_1, ← f2, hy] at this
      cases this
    | true =>
      rw [if_pos rfl]
      have hN2 := (y_mv_room (k := J 1 (gk C i)) hN ha).2 hy
      have ih := led_vin hf m (i + 1) (y_fg J (C i).toInt32.toNatClampNeg s) _ (by omega) hN2 f1
      rw [show i + 1 + m = i + (m + 1) by omega] at ih
      refine ⟨⟨fun h j h1 h2 => ?_, fun h => ih.1.mpr (fun j h1 h2 => ?_)⟩, fun h => ?_⟩
      · obtain ⟨j, rfl⟩ : ∃ k, j = k + 1 := ⟨j - 1, by omega⟩
        rw [hap]
        by_cases hj : j = 0
        · subst hj; rw [mt_ch, mt_ap_1]; exact f2.mp hy
        · exact ih.1.mp h j (by omega) (by omega)
      · rw [← hap]; exact h (j + 1) (by omega) (by omega)
      · obtain ⟨g1, g2, g3⟩ := ih.2 h
        exact ⟨g1, by rw [hap]; exact g2, g3⟩
/-- the vector after so many repetitions -/
def q_u (B : MT) (w : VT) : Nat → VT
  | 0 => w
  | r + 1 => mt_ap B (q_u B w r)
theorem q_u_add (B : MT) (w : VT) (a : Nat) : ∀ b, q_u B (q_u B w a) b = q_u B w (a + b)
  | 0 => rfl
  | b + 1 => by rw [q_u, q_u_add B w a b]; rfl
def c_it (J : pv_I) (C : Nat → Int64) (n : Nat) : Nat → (Nat → Int32) → (Nat → Int32)
  | 0, c => c
  | r + 1, c => c_it J C n r (c_ch J C n 0 c)
theorem go_vin {J : pv_I} {C : Nat → Int64} {n : Nat} (hf : figs J C n) : ∀ (T : Nat) (s : YS) (w : VT), s_isN s.2.2.1 s.2.2.2.1 → re2 w s.2.2.1 s.2.2.2.1 → ((y_go J C n T n s).1 = n ↔ ∀ r, r < T → ∀ j, 1 ≤ j → j ≤ n → vin (mt_ap (mt_ch J C j 0) (q_u (mt_ch J C n 0) w r))) ∧ ((y_go J C n T n s).1 = n → s_isN (y_go J C n T n s).2.2.2.1 (y_go J C n T n s).2.2.2.2.1 ∧ re2 (q_u (mt_ch J C n 0) w T) (y_go J C n T n s).2.2.2.1 (y_go J C n T n s).2.2.2.2.1 ∧ (y_go J C n T n s).2.2.2.2.2 = c_it J C n T s.2.2.2.2)
  | 0, s, w, hN, hre => by
    rw [y_go]
    exact ⟨⟨fun _ r h => by omega, fun _ => rfl⟩, fun _ => ⟨hN, hre, rfl⟩⟩
  | T + 1, s, w, hN, hre => by
    obtain ⟨l1, l2⟩ := led_vin hf n 0 s w (by omega) hN hre
    rw [Nat.zero_add] at l1 l2
    have hs : ∀ r, q_u (mt_ch J C n 0) w (r + 1) = q_u (mt_ch J C n 0) (mt_ap (mt_ch J C n 0) w) r := by
      intro r
      have := q_u_add (mt_ch J C n 0) w 1 r
      rw [show 1 + r = r + 1 by omega] at this
      rw [← this]; rfl
    rw [y_go, if_pos rfl]
    by_cases hl : (y_led J C n 0 s).1 = n
    · obtain ⟨m1, m2, m3⟩ := l2 hl
      have ih := go_vin hf T (y_led J C n 0 s).2 _ m1 m2
      rw [hl]
      refine ⟨⟨fun h r hr j h1 h2 => ?_, fun h => ih.1.mpr (fun r hr j h1 h2 => ?_)⟩, fun h => ?_⟩
      · cases r with
        | zero => exact l1.mp hl j h1 h2
        | succ r => rw [hs]; exact ih.1.mp h r (by omega) j h1 h2
      · rw [← hs]; exact h (r + 1) (by omega) j h1 h2
      · obtain ⟨g1, g2, g3⟩ := ih.2 h
        exact ⟨g1, by rw [hs]; exact g2, by rw [g3, m3]; rfl⟩
    · have hno : ∀ T2 s2, (y_go J C n T2 (y_led J C n 0 s).1 s2).1 = (y_led J C n 0 s).1 := by
        intro T2 s2
        cases T2 with
        | zero => rfl
        | succ T2 => rw [y_go, if_neg hl]
      rw [hno]
      refine ⟨⟨fun h => absurd h hl, fun h => l1.mpr (fun j h1 h2 => h 0 (by omega) j h1 h2)⟩, fun h => absurd h hl⟩
theorem rep_go {J : pv_I} {K : pv_L} (hW : WF J K) (s n : Nat) : ∀ (m : Nat) (p q : Int64) (c : Nat → Int32) (st sp : Int32), s_isN p q → ((w_rep J K s n m p q c).1 = true ↔ (y_go J (K (1 + s)) n m n (st, sp, p, q, c)).1 = n) ∧ ((w_rep J K s n m p q c).1 = true → (w_rep J K s n m p q c).2.1 = (y_go J (K (1 + s)) n m n (st, sp, p, q, c)).2.2.2.1 ∧ (w_rep J K s n m p q c).2.2.1 = (y_go J (K (1 + s)) n m n (st, sp, p, q, c)).2.2.2.2.1 ∧ (w_rep J K s n m p q c).2.2.2 = (y_go J (K (1 + s)) n m n (st, sp, p, q, c)).2.2.2.2.2)
  | 0, p, q, c, st, sp, _ => by rw [w_rep, y_go]; exact ⟨⟨fun _ => rfl, fun _ => rfl⟩, fun _ => ⟨rfl, rfl, rfl⟩⟩
  | m + 1, p, q, c, st, sp, hN => by
    have l := led_y hW s n 0 0 p q c 0 st sp hN
    rw [Nat.zero_add] at l
    have ew : w_rep J K s n (m + 1) p q c = if (w_led J K s n 0 0 p q c 0).1 = true then w_rep J K s n m (w_led J K s n 0 0 p q c 0).2.2.1 (w_led J K s n 0 0 p q c 0).2.2.2.1 (w_led J K s n 0 0 p q c 0).2.2.2.2.1 else (false, p, q, c) := rfl
    rw [ew, y_go, if_pos rfl]
    cases h : (w_led J K s n 0 0 p q c 0).1 with
    | true =>
      obtain ⟨e, -, hN2⟩ := l.1 h
      rw [if_pos rfl, e]
      show ((w_rep J K s n m (w_led J K s n 0 0 p q c 0).2.2.1 (w_led J K s n 0 0 p q c 0).2.2.2.1 (w_led J K s n 0 0 p q c 0).2.2.2.2.1).1 = true ↔ (y_go J (K (1 + s)) n m n (st + Int32.ofNat n, sp + ((w_led J K s n 0 0 p q c 0).2.2.2.2.2 - 0), (w_led J K s n 0 0 p q c 0).2.2.1, (w_led J K s n 0 0 p q c 0).2.2.2.1, (w_led J K s n 0 0 p q c 0).2.2.2.2.1)).1 = n) ∧ _
      exact rep_go hW s n m _ _ _ _ _ hN2
    | false =>
      have hl := (l.2 h).1
      rw [if_neg (by decide)]
      have hno : ∀ T2 s2, (y_go J (K (1 + s)) n T2 (y_led J (K (1 + s)) n 0 (st, sp, p, q, c)).1 s2).1 = (y_led J (K (1 + s)) n 0 (st, sp, p, q, c)).1 := by
        intro T2 s2
        cases T2 with
        | zero => rfl
        | succ T2 => rw [y_go, if_neg (by omega)]
      rw [hno]
      exact ⟨⟨fun q1 => absurd (show false = true from q1) (by decide), fun q1 => by omega⟩, fun q1 => absurd (show false = true from q1) (by decide)⟩
theorem go_add (J : pv_I) (C : Nat → Int64) (n : Nat) : ∀ (a b : Nat) (s : YS), (y_go J C n a n s).1 = n → y_go J C n (a + b) n s = y_go J C n b n (y_go J C n a n s).2
  | 0, b, s, _ => by rw [Nat.zero_add, y_go]
  | a + 1, b, s, h => by
    rw [y_go, if_pos rfl] at h
    rw [show a + 1 + b = (a + b) + 1 by omega, y_go, if_pos rfl, y_go, if_pos rfl]
    by_cases e : (y_led J C n 0 s).1 = n
    · rw [e] at h ⊢
      exact go_add J C n a b _ h
    · exfalso
      cases a with
      | zero => exact e h
      | succ a => rw [y_go, if_neg e] at h; exact e h
theorem go_no (J : pv_I) (C : Nat → Int64) (n : Nat) : ∀ (a b : Nat) (s : YS), ¬ (y_go J C n a n s).1 = n → ¬ (y_go J C n (a + b) n s).1 = n
  | 0, b, s, h => absurd rfl h
  | a + 1, b, s, h => by
    rw [y_go, if_pos rfl] at h
    rw [show a + 1 + b = (a + b) + 1 by omega, y_go, if_pos rfl]
    by_cases e : (y_led J C n 0 s).1 = n
    · rw [e] at h ⊢
      exact go_no J C n a b _ h
    · cases hab : a + b with
      | zero => exact e
      | succ k => rw [y_go, if_neg e]; exact e
/-! the corners come back -/
def c_pm (F : (Nat → Int32) → (Nat → Int32)) : Prop := ∃ f : Nat → Nat, (∀ j, j < 4 → f j < 4) ∧ (∀ i j, i < 4 → j < 4 → f i = f j → i = j) ∧ ∀ c j, j < 4 → F c j = c (f j)
theorem c_pm.id : c_pm (fun c => c) := ⟨fun j => j, fun _ h => h, fun _ _ _ _ h => h, fun _ _ _ => rfl⟩
theorem c_pm.comp {F G : (Nat → Int32) → (Nat → Int32)} (hF : c_pm F) (hG : c_pm G) : c_pm (fun c => F (G c)) := by
  obtain ⟨f, f1, f2, f3⟩ := hF
  obtain ⟨g, g1, g2, g3⟩ := hG
  exact ⟨fun j => g (f j), fun j h => g1 _ (f1 j h), fun i j hi hj h => f2 i j hi hj (g2 _ _ (f1 i hi) (f1 j hj) h), fun c j h => by show F (G c) j = c (g (f j)); rw [f3 _ j h, g3 _ _ (f1 j h)]⟩
theorem c_pm.fC (k a : Int32) (hr : f_r k a < 4) : c_pm (f_C k a) := by
  have h4 : ∀ r, r < 4 → c_pm (h_on r) := by
    intro r hr
    refine ⟨fun j => (j + 4 - r) % 4, fun j _ => Nat.mod_lt _ (by decide), fun i j hi hj h => ?_, fun c j _ => rfl⟩
    simp only at h
    omega
  have hs : ∀ m, c_pm (h_sw m) := by
    intro m
    by_cases e : m % 2 = 0
    · have : h_sw m = fun c => c := by funext c; unfold h_sw; rw [if_pos e]
      rw [this]; exact c_pm.id
    · refine ⟨fun j => if j = 1 then 2 else if j = 2 then 1 else j, fun j h => ?_, fun i j hi hj h => ?_, fun c j _ => ?_⟩
      · simp only
        split
        · omega
        · split <;> omega
      · simp only at h
        split at h <;> split at h <;> (try split at h) <;> (try split at h) <;> omega
      · unfold h_sw
        rw [if_neg e]
        simp only
        split
        · rfl
        · split <;> rfl
  unfold f_C
  by_cases h1 : s_isC k = true
  · have : (fun c => if s_isC k = true then h_sw (f_m k a) c else if s_isT k = true then h_on (f_r k a) c else c) = h_sw (f_m k a) := by funext c; rw [if_pos h1]
    show c_pm (fun c => if s_isC k = true then h_sw (f_m k a) c else if s_isT k = true then h_on (f_r k a) c else c)
    rw [this]; exact hs _
  · by_cases h2 : s_isT k = true
    · have : (fun c => if s_isC k = true then h_sw (f_m k a) c else if s_isT k = true then h_on (f_r k a) c else c) = h_on (f_r k a) := by funext c; rw [if_neg h1, if_pos h2]
      show c_pm (fun c => if s_isC k = true then h_sw (f_m k a) c else if s_isT k = true then h_on (f_r k a) c else c)
      rw [this]; exact h4 _ hr
    · have : (fun c => if s_isC k = true then h_sw (f_m k a) c else if s_isT k = true then h_on (f_r k a) c else c) = fun c => c := by funext c; rw [if_neg h1, if_neg h2]
      show c_pm (fun c => if s_isC k = true then h_sw (f_m k a) c else if s_isT k = true then h_on (f_r k a) c else c)
      rw [this]; exact c_pm.id
theorem f_r_lt (k a : Int32) (ha : 0 ≤ a.toInt ∧ a.toInt ≤ 9) : f_r k a < 4 := by
  unfold f_r f_n
  have key : ∀ x : Int32, 0 ≤ x.toInt → x.toInt ≤ 9 → (x % 4).toNatClampNeg < 4 := by
    intro x h0 h9
    have e : (x % 4).toInt = x.toInt % 4 := by
      rw [Int32.toInt_mod, show (4 : Int32).toInt = 4 by decide, Int.tmod_eq_emod_of_nonneg h0]
    have : (x % 4).toNatClampNeg = (x % 4).toInt.toNat := rfl
    rw [this, e]; omega
  split
  · decide
  · split
    · exact key a ha.1 ha.2
    · decide
theorem c_ch_pm (J : pv_I) (C : Nat → Int64) {n : Nat} (hf : figs J C n) : ∀ m i, i + m ≤ n → c_pm (c_ch J C m i)
  | 0, i, _ => c_pm.id
  | m + 1, i, h => (c_ch_pm J C hf m (i + 1) (by omega)).comp (c_pm.fC _ _ (f_r_lt _ _ (hf i (by omega)).2))
def f_it (f : Nat → Nat) : Nat → Nat → Nat
  | 0, j => j
  | r + 1, j => f (f_it f r j)
def pm_ok (a b c d j : Nat) : Bool := a == b || a == c || a == d || b == c || b == d || c == d || f_it (fun j => if j = 0 then a else if j = 1 then b else if j = 2 then c else d) 12 j == j
set_option maxRecDepth 100000 in
theorem pm_all : ∀ a, a < 4 → ∀ b, b < 4 → ∀ c, c < 4 → ∀ d, d < 4 → ∀ j, j < 4 → pm_ok a b c d j = true := by decide +kernel
theorem f_it_12 (a : Nat) (ha : a < 4) (b : Nat) (hb : b < 4) (c : Nat) (hc : c < 4) (d : Nat) (hd : d < 4) (h1 : a ≠ b) (h2 : a ≠ c) (h3 : a ≠ d) (h4 : b ≠ c) (h5 : b ≠ d) (h6 : c ≠ d) (j : Nat) (hj : j < 4) : f_it (fun j => if j = 0 then a else if j = 1 then b else if j = 2 then c else d) 12 j = j := by
  have h := pm_all a ha b hb c hc d hd j hj
  unfold pm_ok at h
  rw [beq_eq_false_iff_ne.mpr h1, beq_eq_false_iff_ne.mpr h2, beq_eq_false_iff_ne.mpr h3, beq_eq_false_iff_ne.mpr h4, beq_eq_false_iff_ne.mpr h5, beq_eq_false_iff_ne.mpr h6] at h
  exact beq_iff_eq.mp h
theorem f_it_cg {f g : Nat → Nat} (h : ∀ j, j < 4 → f j = g j) (hf : ∀ j, j < 4 → f j < 4) : ∀ r j, j < 4 → f_it f r j = f_it g r j ∧ f_it f r j < 4
  | 0, j, hj => ⟨rfl, hj⟩
  | r + 1, j, hj => by
    obtain ⟨i1, i2⟩ := f_it_cg h hf r j hj
    rw [f_it, f_it, ← i1]
    exact ⟨h _ i2, hf _ i2⟩
theorem c_it_f {J : pv_I} {C : Nat → Int64} {n : Nat} {f : Nat → Nat} (f1 : ∀ j, j < 4 → f j < 4) (h : ∀ c j, j < 4 → c_ch J C n 0 c j = c (f j)) : ∀ r c j, j < 4 → c_it J C n r c j = c (f_it f r j)
  | 0, c, j, _ => rfl
  | r + 1, c, j, hj => by
    rw [c_it, c_it_f f1 h r _ j hj, f_it, h _ _ (f_it_cg (fun _ _ => rfl) f1 r j hj).2]
theorem f_it_add (f : Nat → Nat) (a : Nat) (j : Nat) : ∀ b, f_it f (a + b) j = f_it f b (f_it f a j)
  | 0 => rfl
  | b + 1 => by rw [show a + (b + 1) = (a + b) + 1 by omega, f_it, f_it_add f a j b]; rfl
/-- after whole round trips the corners are as before -/
theorem c_it_trip {J : pv_I} {C : Nat → Int64} {n : Nat} (hf : figs J C n) (m r : Nat) (c : Nat → Int32) {j : Nat} (hj : j < 4) : c_it J C n (12 * m + r) c j = c_it J C n r c j := by
  obtain ⟨f, f1, f2, f3⟩ := c_ch_pm J C hf n 0 (by omega)
  have e12 : ∀ j, j < 4 → f_it f 12 j = j := by
    intro j hj
    have g := f_it_12 (f 0) (f1 0 (by decide)) (f 1) (f1 1 (by decide)) (f 2) (f1 2 (by decide)) (f 3) (f1 3 (by decide)) (fun q => absurd (f2 0 1 (by decide) (by decide) q) (by decide)) (fun q => absurd (f2 0 2 (by decide) (by decide) q) (by decide)) (fun q => absurd (f2 0 3 (by decide) (by decide) q) (by decide)) (fun q => absurd (f2 1 2 (by decide) (by decide) q) (by decide)) (fun q => absurd (f2 1 3 (by decide) (by decide) q) (by decide)) (fun q => absurd (f2 2 3 (by decide) (by decide) q) (by decide)) j hj
    rw [← (f_it_cg (f := f) (fun i hi => ?_) f1 12 j hj).1] at g
    · exact g
    · have : i = 0 ∨ i = 1 ∨ i = 2 ∨ i = 3 := by omega
      rcases this with rfl | rfl | rfl | rfl <;> rfl
  have em : ∀ m, f_it f (12 * m) j = j := by
    intro m
    induction m with
    | zero => rfl
    | succ m ih => rw [show 12 * (m + 1) = 12 * m + 12 by omega, f_it_add, ih, e12 j hj]
  rw [c_it_f f1 f3 _ _ _ hj, c_it_f f1 f3 _ _ _ hj, f_it_add, em]
/-! many repetitions at once -/
def mt_pw (B : MT) : Nat → MT
  | 0 => (1, 0, 0, 1)
  | r + 1 => mt_mul B (mt_pw B r)
theorem q_u_pw (B : MT) (w : VT) : ∀ r, q_u B w r = mt_ap (mt_pw B r) w
  | 0 => (mt_ap_1 w).symm
  | r + 1 => by rw [q_u, mt_pw, mt_ap_mul, q_u_pw B w r]
theorem q_u_rec {B : MT} (hd : mt_det B = 1) (w : VT) (a c : Int) : q_rec (B.1 + B.2.2.2) 1 (fun r => a * (q_u B w r).1 + c * (q_u B w r).2) := by
  intro r
  show a * (q_u B w (r + 2)).1 + c * (q_u B w (r + 2)).2 = _ * (a * (q_u B w (r + 1)).1 + c * (q_u B w (r + 1)).2) - (a * (q_u B w r).1 + c * (q_u B w r).2)
  have e : q_u B w (r + 2) = mt_ap B (mt_ap B (q_u B w r)) := rfl
  have e1 : q_u B w (r + 1) = mt_ap B (q_u B w r) := rfl
  rw [e, e1]
  generalize q_u B w r = v
  obtain ⟨b1, b2, b3, b4⟩ := B
  obtain ⟨x, y⟩ := v
  unfold mt_det at hd
  unfold mt_ap
  simp only at *
  grind
theorem q_u_rec1 {B : MT} (hd : mt_det B = 1) (w : VT) : q_rec (B.1 + B.2.2.2) 1 (fun r => (q_u B w r).1) := by
  have h := q_u_rec hd w 1 0
  intro r
  have := h r
  simp only [Int.one_mul, Int.zero_mul, Int.add_zero] at this
  exact this
theorem q_u_rec2 {B : MT} (hd : mt_det B = 1) (w : VT) : q_rec (B.1 + B.2.2.2) 1 (fun r => (q_u B w r).2) := by
  have h := q_u_rec hd w 0 1
  intro r
  have := h r
  simp only [Int.one_mul, Int.zero_mul, Int.zero_add] at this
  exact this
theorem re2_ne {w : VT} {p q : Int64} (h : re2 w p q) (hN : s_isN p q) : w.1 ≠ 0 ∨ w.2 ≠ 0 := by
  obtain ⟨h1, h2, h3, h4, h5⟩ := hN
  unfold re2 at h
  by_cases e : q.toInt = 0
  · rw [if_pos e] at h5; omega
  · omega
theorem re2_one {w : VT} {p q p' q' : Int64} (h : re2 w p q) (g : re2 w p' q') (hN : s_isN p q) (hM : s_isN p' q') : p = p' ∧ q = q' := by
  obtain ⟨h1, h2, h3, h4, h5⟩ := hN
  obtain ⟨g1, g2, g3, g4, g5⟩ := hM
  unfold re2 at h g
  have z : q.toInt = 0 → p.toInt = 1 := fun e => by rw [if_pos e] at h5; exact h5
  have z' : q'.toInt = 0 → p'.toInt = 1 := fun e => by rw [if_pos e] at g5; exact g5
  rw [← Int64.toInt_inj, ← Int64.toInt_inj]
  omega
theorem rep_line {B : MT} (hd : mt_det B = 1) {p0 q0 P1 Q1 P2 Q2 : Int64} (hN0 : s_isN p0 q0) (hN1 : s_isN P1 Q1) (h1 : re2 (q_u B (p0.toInt, q0.toInt) 12) P1 Q1) (h2 : re2 (q_u B (p0.toInt, q0.toInt) 24) P2 Q2) {s e : Int} (hs : s = 1 ∨ s = -1) (he : e = 1 ∨ e = -1) (a1 : 2 * (s * P1.toInt) - p0.toInt = e * P2.toInt) (a2 : 2 * (s * Q1.toInt) - q0.toInt = e * Q2.toInt) : s * P1.toInt = (q_u B (p0.toInt, q0.toInt) 12).1 ∧ s * Q1.toInt = (q_u B (p0.toInt, q0.toInt) 12).2 ∧ -2 ≤ B.1 + B.2.2.2 ∧ B.1 + B.2.2.2 ≤ 2 := by
  have n12 := re2_ne h1 hN1
  have n0 : (p0.toInt, q0.toInt).1 ≠ 0 ∨ (p0.toInt, q0.toInt).2 ≠ 0 := re2_ne (w := (p0.toInt, q0.toInt)) (Or.inl ⟨rfl, rfl⟩) hN0
  have r1 := q_u_rec1 hd (p0.toInt, q0.toInt)
  have r2 := q_u_rec2 hd (p0.toInt, q0.toInt)
  have k24 : q_u B (p0.toInt, q0.toInt) 24 = mt_ap (mt_pw B 12) (q_u B (p0.toInt, q0.toInt) 12) := by rw [← q_u_pw, q_u_add]
  have k12 : q_u B (p0.toInt, q0.toInt) 12 = mt_ap (mt_pw B 12) (p0.toInt, q0.toInt) := q_u_pw B _ 12
  obtain ⟨s1, hs1, e1, e2⟩ : ∃ s1 : Int, (s1 = 1 ∨ s1 = -1) ∧ P1.toInt = s1 * (q_u B (p0.toInt, q0.toInt) 12).1 ∧ Q1.toInt = s1 * (q_u B (p0.toInt, q0.toInt) 12).2 := by
    rcases h1 with ⟨x, y⟩ | ⟨x, y⟩
    · exact ⟨1, Or.inl rfl, by omega, by omega⟩
    · exact ⟨-1, Or.inr rfl, by omega, by omega⟩
  obtain ⟨s2, hs2, e3, e4⟩ : ∃ s2 : Int, (s2 = 1 ∨ s2 = -1) ∧ P2.toInt = s2 * (q_u B (p0.toInt, q0.toInt) 24).1 ∧ Q2.toInt = s2 * (q_u B (p0.toInt, q0.toInt) 24).2 := by
    rcases h2 with ⟨x, y⟩ | ⟨x, y⟩
    · exact ⟨1, Or.inl rfl, by omega, by omega⟩
    · exact ⟨-1, Or.inr rfl, by omega, by omega⟩
  have m24a : (q_u B (p0.toInt, q0.toInt) 24).1 = (mt_pw B 12).1 * (q_u B (p0.toInt, q0.toInt) 12).1 + (mt_pw B 12).2.1 * (q_u B (p0.toInt, q0.toInt) 12).2 := by rw [k24]; rfl
  have m24b : (q_u B (p0.toInt, q0.toInt) 24).2 = (mt_pw B 12).2.2.1 * (q_u B (p0.toInt, q0.toInt) 12).1 + (mt_pw B 12).2.2.2 * (q_u B (p0.toInt, q0.toInt) 12).2 := by rw [k24]; rfl
  have m12a : (q_u B (p0.toInt, q0.toInt) 12).1 = (mt_pw B 12).1 * p0.toInt + (mt_pw B 12).2.1 * q0.toInt := by rw [k12]; rfl
  have m12b : (q_u B (p0.toInt, q0.toInt) 12).2 = (mt_pw B 12).2.2.1 * p0.toInt + (mt_pw B 12).2.2.2 * q0.toInt := by rw [k12]; rfl
  have z0 : (q_u B (p0.toInt, q0.toInt) 0) = (p0.toInt, q0.toInt) := rfl
  have hss : s * s1 = 1 ∨ s * s1 = -1 := by rcases hs with rfl | rfl <;> rcases hs1 with rfl | rfl <;> decide
  have hee : e * s2 = 1 ∨ e * s2 = -1 := by rcases he with rfl | rfl <;> rcases hs2 with rfl | rfl <;> decide
  have acc := q_acc (b := B.1 + B.2.2.2) (p := fun r => (q_u B (p0.toInt, q0.toInt) r).1) (q := fun r => (q_u B (p0.toInt, q0.toInt) r).2) r1 r2 m24a m24b (by rw [z0]; exact m12a) (by rw [z0]; exact m12b) n0 n12 (s := s * s1) (e := e * s2) hss hee (by
    show 2 * (s * s1 * (q_u B (p0.toInt, q0.toInt) 12).1) - p0.toInt = e * s2 * (q_u B (p0.toInt, q0.toInt) 24).1
    rw [Int.mul_assoc s, ← e1, Int.mul_assoc e, ← e3]; exact a1) (by
    show 2 * (s * s1 * (q_u B (p0.toInt, q0.toInt) 12).2) - q0.toInt = e * s2 * (q_u B (p0.toInt, q0.toInt) 24).2
    rw [Int.mul_assoc s, ← e2, Int.mul_assoc e, ← e4]; exact a2)
  refine ⟨?_, ?_, acc.2⟩
  · rw [e1, ← Int.mul_assoc, acc.1, Int.one_mul]
  · rw [e2, ← Int.mul_assoc, acc.1, Int.one_mul]
/-- what comes to the same: the dance done so often, or begun anew where the line comes to -/
theorem rep_eqv {J : pv_I} {C : Nat → Int64} {n : Nat} (hf : figs J C n) {st sp st' sp' : Int32} {p0 q0 P Q : Int64} {c0 c2 : Nat → Int32} (hN0 : s_isN p0 q0) (hb : -2 ≤ (mt_ch J C n 0).1 + (mt_ch J C n 0).2.2.2 ∧ (mt_ch J C n 0).1 + (mt_ch J C n 0).2.2.2 ≤ 2) {k l : Nat} (hk : 2 ≤ k) (hl : 1 ≤ l) (h24 : (y_go J C n 24 n (st, sp, p0, q0, c0)).1 = n) (hr : re2 (q_u (mt_ch J C n 0) (p0.toInt, q0.toInt) (12 * k)) P Q) (hN : s_isN P Q) (hc2 : ∀ j, j < 4 → c_it J C n l c2 j = c_it J C n (24 + l) c0 j) : ((y_go J C n (12 * k + l) n (st, sp, p0, q0, c0)).1 = n ↔ (y_go J C n l n (st', sp', P, Q, c2)).1 = n) ∧ ((y_go J C n (12 * k + l) n (st, sp, p0, q0, c0)).1 = n → (y_go J C n l n (st', sp', P, Q, c2)).2.2.2.1 = (y_go J C n (12 * k + l) n (st, sp, p0, q0, c0)).2.2.2.1 ∧ (y_go J C n l n (st', sp', P, Q, c2)).2.2.2.2.1 = (y_go J C n (12 * k + l) n (st, sp, p0, q0, c0)).2.2.2.2.1 ∧ ∀ j, j < 4 → (y_go J C n l n (st', sp', P, Q, c2)).2.2.2.2.2 j = (y_go J C n (12 * k + l) n (st, sp, p0, q0, c0)).2.2.2.2.2 j) := by
  have hd := mt_ch_det J C n 0
  have hw : re2 (p0.toInt, q0.toInt) p0 q0 := Or.inl ⟨rfl, rfl⟩
  obtain ⟨A1, A2⟩ := go_vin hf (12 * k + l) (st, sp, p0, q0, c0) (p0.toInt, q0.toInt) hN0 hw
  obtain ⟨B1, B2⟩ := go_vin hf l (st', sp', P, Q, c2) _ hN hr
  obtain ⟨C1, C2⟩ := go_vin hf 24 (st, sp, p0, q0, c0) (p0.toInt, q0.toInt) hN0 hw
  have key : (y_go J C n (12 * k + l) n (st, sp, p0, q0, c0)).1 = n ↔ (y_go J C n l n (st', sp', P, Q, c2)).1 = n := by
    rw [A1, B1]
    constructor
    · intro h r hr j h1 h2
      rw [q_u_add]
      exact h (12 * k + r) (by omega) j h1 h2
    · intro h r hr j h1 h2
      have hx := q_fill (q_u_rec hd (p0.toInt, q0.toInt) (mt_ch J C j 0).1 (mt_ch J C j 0).2.1) hb (M := 1000000000000) (t := 12 * k + l) (by omega) (fun r hr => (C1.mp h24 r hr j h1 h2).1) (by
        have := (h (l - 1) (by omega) j h1 h2).1
        rw [q_u_add, show 12 * k + (l - 1) = 12 * k + l - 1 by omega] at this
        exact this) r hr
      have hy := q_fill (q_u_rec hd (p0.toInt, q0.toInt) (mt_ch J C j 0).2.2.1 (mt_ch J C j 0).2.2.2) hb (M := 1000000000000) (t := 12 * k + l) (by omega) (fun r hr => (C1.mp h24 r hr j h1 h2).2) (by
        have := (h (l - 1) (by omega) j h1 h2).2
        rw [q_u_add, show 12 * k + (l - 1) = 12 * k + l - 1 by omega] at this
        exact this) r hr
      exact ⟨hx, hy⟩
  refine ⟨key, fun h => ?_⟩
  obtain ⟨a1, a2, a3⟩ := A2 h
  obtain ⟨b1, b2, b3⟩ := B2 (key.mp h)
  rw [q_u_add] at b2
  obtain ⟨e1, e2⟩ := re2_one b2 a2 b1 a1
  refine ⟨e1, e2, fun j hj => ?_⟩
  rw [b3, a3]
  show c_it J C n l c2 j = c_it J C n (12 * k + l) c0 j
  rw [hc2 j hj, show 24 + l = 12 * 2 + l by omega, c_it_trip hf 2 l c0 hj, c_it_trip hf k l c0 hj]
theorem rep_in {J : pv_I} {C : Nat → Int64} {n : Nat} (hf : figs J C n) {st sp : Int32} {p0 q0 : Int64} {c0 : Nat → Int32} (hN0 : s_isN p0 q0) {t r : Nat} (hr : r ≤ t) (h : (y_go J C n t n (st, sp, p0, q0, c0)).1 = n) : vin (q_u (mt_ch J C n 0) (p0.toInt, q0.toInt) r) := by
  obtain ⟨A1, A2⟩ := go_vin hf t (st, sp, p0, q0, c0) (p0.toInt, q0.toInt) hN0 (Or.inl ⟨rfl, rfl⟩)
  have h0 : vin (p0.toInt, q0.toInt) := by
    obtain ⟨h1, h2, h3, h4, -⟩ := hN0
    unfold vin q_in
    simp only
    omega
  by_cases hn : n = 0
  · subst hn
    have : ∀ r, q_u (mt_ch J C 0 0) (p0.toInt, q0.toInt) r = (p0.toInt, q0.toInt) := by
      intro r
      induction r with
      | zero => rfl
      | succ r ih => rw [q_u, ih, mt_ch, mt_ap_1]
    rw [this]; exact h0
  · cases r with
    | zero => exact h0
    | succ r => exact A1.mp h r (by omega) n (by omega) (Nat.le_refl _)
theorem mt_gcd {B : MT} (hd : mt_det B = 1) (w : VT) : Int.gcd (mt_ap B w).1 (mt_ap B w).2 = Int.gcd w.1 w.2 := by
  obtain ⟨a, b, c, d⟩ := B
  obtain ⟨x, y⟩ := w
  unfold mt_det at hd
  unfold mt_ap
  simp only at *
  refine Nat.dvd_antisymm (Int.dvd_gcd ?_ ?_) (Int.dvd_gcd ?_ ?_)
  · have e : x = d * (a * x + b * y) - b * (c * x + d * y) := by grind
    have k := Int.dvd_sub (Int.dvd_mul_of_dvd_right (c := a * x + b * y) (b := d) (Int.gcd_dvd_left (a * x + b * y) (c * x + d * y))) (Int.dvd_mul_of_dvd_right (c := c * x + d * y) (b := b) (Int.gcd_dvd_right (a * x + b * y) (c * x + d * y)))
    rw [← e] at k
    exact k
  · have e : y = a * (c * x + d * y) - c * (a * x + b * y) := by grind
    have k := Int.dvd_sub (Int.dvd_mul_of_dvd_right (c := c * x + d * y) (b := a) (Int.gcd_dvd_right (a * x + b * y) (c * x + d * y))) (Int.dvd_mul_of_dvd_right (c := a * x + b * y) (b := c) (Int.gcd_dvd_left (a * x + b * y) (c * x + d * y)))
    rw [← e] at k
    exact k
  · exact Int.dvd_add (Int.dvd_mul_of_dvd_right (Int.gcd_dvd_left ..)) (Int.dvd_mul_of_dvd_right (Int.gcd_dvd_right ..))
  · exact Int.dvd_add (Int.dvd_mul_of_dvd_right (Int.gcd_dvd_left ..)) (Int.dvd_mul_of_dvd_right (Int.gcd_dvd_right ..))
theorem q_u_gcd {B : MT} (hd : mt_det B = 1) (w : VT) : ∀ r, Int.gcd (q_u B w r).1 (q_u B w r).2 = Int.gcd w.1 w.2
  | 0 => rfl
  | r + 1 => by rw [q_u, mt_gcd hd, q_u_gcd hd w r]
theorem isN_of {w : VT} {P Q : Int64} (hg : Int.gcd w.1 w.2 = 1) (hv : vin w) (hr : re2 w P Q) (h0 : 0 ≤ Q.toInt) (h1 : Q.toInt = 0 → 0 < P.toInt) : s_isN P Q := by
  have hg2 : Int.gcd P.toInt Q.toInt = 1 := by
    rcases hr with ⟨a, b⟩ | ⟨a, b⟩
    · rw [a, b]; exact hg
    · rw [← a, ← b, Int.neg_gcd, Int.gcd_neg] at hg; exact hg
  unfold vin q_in at hv
  unfold re2 at hr
  refine ⟨h0, by omega, by omega, by omega, ?_⟩
  split
  · next z =>
    rw [z, Int.gcd_zero_right] at hg2
    have := h1 z
    omega
  · exact hg2
