/-! how many runs there are: the class stops after 1000, the reference never needs more -/
def u_done : Nat → Int64 → Int64 → Prop
  | 0, x, _ => x = 0
  | m + 1, x, y => x = 0 ∨ u_done m (u_x x y) (u_y x y)
theorem u_done_s : ∀ (m : Nat) (x y : Int64), u_done m x y → u_done (m + 1) x y
  | 0, x, y, h => Or.inl h
  | m + 1, x, y, h => by
    rcases h with h | h
    · exact Or.inl h
    · exact Or.inr (u_done_s m _ _ h)
theorem u_done_add (m : Nat) (x y : Int64) (h : u_done m x y) : ∀ j, u_done (m + j) x y
  | 0 => h
  | j + 1 => u_done_s (m + j) x y (u_done_add m x y h j)
theorem u_cnt_z {m : Nat} {x y : Int64} (h : x = 0) : u_cnt m x y = 0 := by
  cases m with
  | zero => rfl
  | succ m => rw [u_cnt, if_pos h]
theorem u_cnt_e {m : Nat} {x y : Int64} (h : ¬ x = 0) : u_cnt (m + 1) x y = u_k x y + u_cnt m (u_x x y) (u_y x y) := by rw [u_cnt, if_neg h]
theorem u_at_z {m : Nat} {x y l : Int64} {w : Int32} (h : x = 0) : u_at m x y l w = w := by
  cases m with
  | zero => rfl
  | succ m => rw [u_at, if_pos h]
theorem u_at_e {m : Nat} {x y l : Int64} {w : Int32} (h : ¬ x = 0) : u_at (m + 1) x y l w = u_at m (u_x x y) (u_y x y) (l - u_k x y) (if 0 ≤ l ∧ l < u_k x y then u_s x y l else w) := by rw [u_at, if_neg h]
theorem u_cnt_s : ∀ (m : Nat) (x y : Int64), u_done m x y → u_cnt (m + 1) x y = u_cnt m x y
  | 0, x, y, h => by
    rw [u_cnt_z h, u_cnt_z h]
  | m + 1, x, y, h => by
    by_cases h0 : x = 0
    · rw [u_cnt_z h0, u_cnt_z h0]
    · rw [u_cnt_e h0, u_cnt_e h0, u_cnt_s m _ _ (h.elim (fun q => absurd q h0) id)]
theorem u_at_s : ∀ (m : Nat) (x y l : Int64) (w : Int32), u_done m x y → u_at (m + 1) x y l w = u_at m x y l w
  | 0, x, y, l, w, h => by
    rw [u_at_z h, u_at_z h]
  | m + 1, x, y, l, w, h => by
    by_cases h0 : x = 0
    · rw [u_at_z h0, u_at_z h0]
    · rw [u_at_e h0, u_at_e h0, u_at_s m _ _ _ _ (h.elim (fun q => absurd q h0) id)]
theorem u_cnt_add (m : Nat) (x y : Int64) (h : u_done m x y) : ∀ j, u_cnt (m + j) x y = u_cnt m x y
  | 0 => rfl
  | j + 1 => (u_cnt_s (m + j) x y (u_done_add m x y h j)).trans (u_cnt_add m x y h j)
theorem u_at_add (m : Nat) (x y l : Int64) (w : Int32) (h : u_done m x y) : ∀ j, u_at (m + j) x y l w = u_at m x y l w
  | 0 => rfl
  | j + 1 => (u_at_s (m + j) x y l w (u_done_add m x y h j)).trans (u_at_add m x y l w h j)
theorem u_cnt_eq {m n : Nat} {x y : Int64} (h : u_done m x y) (g : u_done n x y) : u_cnt m x y = u_cnt n x y := by
  rcases Nat.le_total m n with q | q
  · have := u_cnt_add m x y h (n - m); rw [show m + (n - m) = n by omega] at this; exact this.symm
  · have := u_cnt_add n x y g (m - n); rw [show n + (m - n) = m by omega] at this; exact this
theorem u_at_eq {m n : Nat} {x y l : Int64} {w : Int32} (h : u_done m x y) (g : u_done n x y) : u_at m x y l w = u_at n x y l w := by
  rcases Nat.le_total m n with q | q
  · have := u_at_add m x y l w h (n - m); rw [show m + (n - m) = n by omega] at this; exact this.symm
  · have := u_at_add n x y l w g (m - n); rw [show n + (m - n) = m by omega] at this; exact this
theorem u_done_m : ∀ (m : Nat) (x y : Int64), u_ok x y → u_m x y < m → u_done m x y
  | 0, x, y, _, h => absurd h (Nat.not_lt_zero _)
  | m + 1, x, y, hok, h => by
    by_cases h0 : x = 0
    · exact Or.inl h0
    · obtain ⟨g1, g2⟩ := u_next hok h0
      exact Or.inr (u_done_m m _ _ g1 (by omega))
/-- from above 0 and below the other: every three runs halve it -/
theorem u_done_A : ∀ (k : Nat) (x y : Int64), u_ok x y → 0 ≤ x.toInt → x.toInt < y.toInt → y.toInt < 2 ^ k → u_done (3 * k + 1) x y
  | 0, x, y, hok, h0, h1, h2 => by exfalso; omega
  | k + 1, x, y, hok, h0, h1, h2 => by
    by_cases hx0 : x = 0
    · exact Or.inl hx0
    · have hxn : ¬ x < 0 := by rw [l64_lt, l64_0]; omega
      have hx1 := l64_n0.mp hx0
      have turn : ∀ (x1 y1 : Int64), u_ok x1 y1 → ¬ x1 = 0 → 0 < x1.toInt → 2 * x1.toInt < y1.toInt → x1.toInt < 2 ^ k → u_done (3 * k + 1 + 2) x1 y1 := fun x1 y1 ok1 n1 p1 p2 p3 => by
        have hc : ¬ (x1 < y1 ∧ y1 ≤ 2 * x1) := fun z => by
          have z2 := z.2
          rw [l64_le, u_2 ok1 (by rw [l64_lt, l64_0]; omega)] at z2
          omega
        obtain ⟨c1, c2, c3, c4, c5, c6⟩ := u_C ok1 (by rw [l64_lt, l64_0]; omega) n1 hc
        have ok2 := (u_next ok1 n1).1
        have e2 := c6 (by omega)
        refine Or.inr ?_
        rw [e2] at ok2 ⊢
        have n2 : ¬ u_x x1 y1 = 0 := by rw [l64_n0, c4]; omega
        have ng : u_x x1 y1 < 0 := by rw [l64_lt, c4, l64_0]; omega
        obtain ⟨a1, a2, a3, a4, a5⟩ := u_A ok2 ng
        have ok3 := (u_next ok2 n2).1
        have q := i_divs (a := -(u_x x1 y1).toInt + x1.toInt - 1) a1
        refine Or.inr ?_
        rw [a5] at ok3 ⊢
        exact u_done_A k _ _ ok3 (by rw [a4]; omega) (by rw [a4]; omega) p3
      rw [Int.pow_succ] at h2
      by_cases hc : x < y ∧ y ≤ 2 * x
      · obtain ⟨b1, b2, b3, b4, b5, b6, b7, b8, b9, b10⟩ := u_B hok hxn hx0 hc
        have ok1 := (u_next hok hx0).1
        have q := i_divs (a := x.toInt) (b := y.toInt - x.toInt) (by omega)
        show u_done (3 * k + 1 + 3) x y
        refine Or.inr ?_
        by_cases n1 : u_x x y = 0
        · exact Or.inl n1
        · have n1' := l64_n0.mp n1
          exact turn _ _ ok1 n1 (by rw [b9] at n1' ⊢; omega) (by rw [b9, b10]; omega) (by rw [b9]; omega)
      · obtain ⟨c1, c2, c3, c4, c5, c6⟩ := u_C hok hxn hx0 hc
        exact u_done_s _ _ _ (turn x y hok hx0 c1 (c2 h1) (by have := c2 h1; omega))
theorem u_done_1 {x y : Int64} (hok : u_ok x y) : u_done 130 x y := by
  have p40 : (1000000000000 : Int) < 2 ^ 40 := by decide
  by_cases h0 : x = 0
  · exact Or.inl h0
  · have ok1 := (u_next hok h0).1
    have hok2 := hok
    obtain ⟨h1, h2, h3, h4, h5⟩ := hok2
    by_cases hx : x < 0
    · obtain ⟨a1, a2, a3, a4, a5⟩ := u_A hok hx
      have q := i_divs (a := -x.toInt + y.toInt - 1) a1
      refine Or.inr (u_done_add 121 _ _ ?_ 8)
      rw [a5] at ok1 ⊢
      rw [l64_lt, l64_0] at hx
      exact u_done_A 40 _ _ ok1 (by rw [a4]; omega) (by rw [a4]; omega) (by omega)
    · have hx' := hx
      rw [l64_lt, l64_0] at hx'
      by_cases hxy : x.toInt < y.toInt
      · exact u_done_add 121 _ _ (u_done_A 40 x y hok (by omega) hxy (by omega)) 9
      · have hc : ¬ (x < y ∧ y ≤ 2 * x) := fun z => by have z1 := z.1; rw [l64_lt] at z1; omega
        obtain ⟨c1, c2, c3, c4, c5, c6⟩ := u_C hok hx h0 hc
        refine Or.inr ?_
        by_cases hy : y.toInt = 0
        · refine Or.inl ?_
          rw [← Int64.toInt_inj, c4, hy, l64_0]; rfl
        · have e2 := c6 hy
          rw [e2] at ok1 ⊢
          have n2 : ¬ u_x x y = 0 := by rw [l64_n0, c4]; omega
          have ng : u_x x y < 0 := by rw [l64_lt, c4, l64_0]; omega
          obtain ⟨a1, a2, a3, a4, a5⟩ := u_A ok1 ng
          have ok3 := (u_next ok1 n2).1
          have q := i_divs (a := -(u_x x y).toInt + x.toInt - 1) a1
          refine Or.inr (u_done_add 121 _ _ ?_ 7)
          rw [a5] at ok3 ⊢
          exact u_done_A 40 _ _ ok3 (by rw [a4]; omega) (by rw [a4]; omega) (by omega)
theorem u_n_130 {x y : Int64} (hok : u_ok x y) : u_n x y = u_cnt 130 x y := u_cnt_eq (u_done_m _ _ _ hok (Nat.lt_succ_self _)) (u_done_1 hok)
theorem u_i_130 {x y l : Int64} (hok : u_ok x y) : u_i x y l = u_at 130 x y l (-1) := u_at_eq (u_done_m _ _ _ hok (Nat.lt_succ_self _)) (u_done_1 hok)
theorem u_kb {x y : Int64} (hok : u_ok x y) (h0 : ¬ x = 0) : 1 ≤ (u_k x y).toInt ∧ (u_k x y).toInt ≤ 3000000000000 := by
  have hok2 := hok
  obtain ⟨h1, h2, h3, h4, h5⟩ := hok2
  by_cases hx : x < 0
  · obtain ⟨a1, a2, a3, a4, a5⟩ := u_A hok hx
    have q := i_divs (a := -x.toInt + y.toInt - 1) a1
    rw [l64_lt, l64_0] at hx
    rw [a3]
    have e1 : 1 ≤ (-x.toInt + y.toInt - 1) / y.toInt := (Int.le_ediv_iff_mul_le a1).mpr (by omega)
    have e2 : (-x.toInt + y.toInt - 1) / y.toInt ≤ -x.toInt + y.toInt - 1 := Int.ediv_le_self _ (by omega)
    omega
  · by_cases hc : x < y ∧ y ≤ 2 * x
    · obtain ⟨b1, b2, b3, b4, b5, b6, b7, b8, b9, b10⟩ := u_B hok hx h0 hc
      rw [b8]; omega
    · obtain ⟨c1, c2, c3, c4, c5, c6⟩ := u_C hok hx h0 hc
      rw [c3, l64_1]; omega
/-- what is found stays -/
theorem u_at_neg (m : Nat) : ∀ (x y l : Int64) (w : Int32), u_ok x y → l.toInt < 0 → -9000000000000000000 + (m : Int) * 3000000000000 ≤ l.toInt → u_at m x y l w = w := by
  induction m with
  | zero => intro x y l w _ _ _; rw [u_at]
  | succ m ih =>
    intro x y l w hok h1 h2
    by_cases h0 : x = 0
    · rw [u_at_z h0]
    · have kb := u_kb hok h0
      have e : (l - u_k x y).toInt = l.toInt - (u_k x y).toInt := l64_sub (by omega) (by omega)
      rw [u_at_e h0, if_neg (fun z => by have z1 := z.1; rw [l64_le, l64_0] at z1; omega)]
      exact ih _ _ _ _ (u_next hok h0).1 (by omega) (by omega)
theorem u_cntb : ∀ (m : Nat) (x y : Int64), m ≤ 200 → u_ok x y → 0 ≤ (u_cnt m x y).toInt ∧ (u_cnt m x y).toInt ≤ m * 3000000000000
  | 0, x, y, _, _ => by rw [show u_cnt 0 x y = 0 from by rw [u_cnt], l64_0]; omega
  | m + 1, x, y, hm, hok => by
    by_cases h0 : x = 0
    · rw [u_cnt_z h0, l64_0]; omega
    · have kb := u_kb hok h0
      have ih := u_cntb m _ _ (by omega) (u_next hok h0).1
      rw [u_cnt_e h0, l64_add (by omega) (by omega)]
      omega
theorem u_s_c (x y l : Int64) : u_s x y l = 0 ∨ u_s x y l = 2 := by
  unfold u_s
  split
  · exact Or.inl rfl
  · split
    · split
      · exact Or.inr rfl
      · exact Or.inl rfl
    · exact Or.inr rfl
/-- a place is found just where there is one -/
theorem u_at_in : ∀ (m : Nat) (x y l : Int64), m ≤ 200 → u_ok x y → 0 ≤ l.toInt → (u_at m x y l (-1) = -1 ↔ ¬ l.toInt < (u_cnt m x y).toInt)
  | 0, x, y, l, _, _, h => ⟨fun _ => by rw [show u_cnt 0 x y = 0 from by rw [u_cnt], l64_0]; omega, fun _ => by rw [u_at]⟩
  | m + 1, x, y, l, hm, hok, h => by
    by_cases h0 : x = 0
    · rw [u_at_z h0, u_cnt_z h0, l64_0]
      exact ⟨fun _ => by omega, fun _ => rfl⟩
    · have kb := u_kb hok h0
      have cb := u_cntb m _ _ (by omega) (u_next hok h0).1
      have lb := Int64.toInt_lt l
      have e : (l - u_k x y).toInt = l.toInt - (u_k x y).toInt := l64_sub (by omega) (by omega)
      have e2 : (u_k x y + u_cnt m (u_x x y) (u_y x y)).toInt = (u_k x y).toInt + (u_cnt m (u_x x y) (u_y x y)).toInt := l64_add (by omega) (by omega)
      rw [u_at_e h0, u_cnt_e h0, e2]
      by_cases hk : l.toInt < (u_k x y).toInt
      · rw [if_pos ⟨by rw [l64_le, l64_0]; exact h, by rw [l64_lt]; exact hk⟩, u_at_neg m _ _ _ _ (u_next hok h0).1 (by omega) (by omega)]
        constructor
        · intro z; rcases u_s_c x y l with g | g <;> rw [g] at z <;> exact absurd z (by decide)
        · intro z; exact absurd (by omega) z
      · rw [if_neg (fun z => by have z2 := z.2; rw [l64_lt] at z2; omega), u_at_in m _ _ _ (by omega) (u_next hok h0).1 (by omega), e]
        omega

theorem x_gap {x y : Int64} (hok : u_ok x y) (hx : ¬ x < 0) : (y - x).toInt = y.toInt - x.toInt := by
  obtain ⟨h1, h2, h3, h4, h5⟩ := hok
  rw [l64_lt, l64_0] at hx
  exact l64_sub (by omega) (by omega)
/-- when the class takes a run of three -/
theorem x_B {x y : Int64} (hok : u_ok x y) (hx : ¬ x < 0) (h0 : ¬ x = 0) : (x < y ∧ y ≤ 2 * x) ↔ (0 < y - x ∧ 1 < y / (y - x)) := by
  have g := x_gap hok hx
  have hok2 := hok
  obtain ⟨h1, h2, h3, h4, h5⟩ := hok2
  have h01 := l64_n0.mp h0
  have hx' := hx
  rw [l64_lt, l64_0] at hx'
  rw [l64_lt, l64_le, u_2 hok hx, l64_lt, l64_0, g]
  constructor
  · rintro ⟨c1, c2⟩
    refine ⟨by omega, ?_⟩
    rw [l64_lt, l64_div h1 (by omega), g, l64_1]
    have : 2 ≤ y.toInt / (y.toInt - x.toInt) := (Int.le_ediv_iff_mul_le (by omega)).mpr (by omega)
    omega
  · rintro ⟨c1, c2⟩
    refine ⟨by omega, ?_⟩
    rw [l64_lt, l64_div h1 (by omega), g, l64_1] at c2
    have : 2 * (y.toInt - x.toInt) ≤ y.toInt := (Int.le_ediv_iff_mul_le (by omega)).mp (by omega)
    omega
theorem x_rnd {x y : Int64} (hok : u_ok x y) (hx : ¬ x < 0) (h0 : ¬ x = 0) (hc : x < y ∧ y ≤ 2 * x) : y / (y - x) - 1 = x / (y - x) := by
  obtain ⟨b1, b2, b3, b4, b5, b6, b7, b8, b9, b10⟩ := u_B hok hx h0 hc
  obtain ⟨h1, h2, h3, h4, h5⟩ := hok
  have e1 : (y / (y - x)).toInt = y.toInt / (y.toInt - x.toInt) := by rw [l64_div h1 (by omega), b4]
  have e2 : y.toInt / (y.toInt - x.toInt) = x.toInt / (y.toInt - x.toInt) + 1 := by
    have := Int.add_mul_ediv_right x.toInt 1 (show y.toInt - x.toInt ≠ 0 by omega)
    rw [Int.one_mul, show x.toInt + (y.toInt - x.toInt) = y.toInt by omega] at this
    exact this
  rw [← Int64.toInt_inj, l64_sub (by rw [e1, e2, l64_1]; omega) (by rw [e1, e2, l64_1]; omega), e1, e2, b5, l64_1]
  omega
theorem x_kA (x y : Int64) : (y - 1 - x) / y = (-x + y - 1) / y := by
  have e : y - 1 - x = -x + y - 1 := by grind
  rw [e]
set_option maxRecDepth 100000 in
set_option maxHeartbeats 4000000 in
theorem l_uc {G : pv_G} {d : Nat} {Q : pv_Q} {a b : Int64} {R : Int64} {t : pv_T} {I : pv_I} {L : pv_L} {Rf : pv_R} (hQ : Q (some (.long R)) t I L Rf) : ∀ (m i : Nat) (x y z n : Int64) (l15 l16 l17 l19 l20 : Value), i + m < 1000 → u_done m x y → u_ok x y → n + u_cnt m x y = R → (x = 0 ∨ z = y) →
    pv_V G mX11_undoing d 0 0 Q 0 0 16 [.long a, .retAddr 0, .long b, .retAddr 0, .long (-1), .retAddr 0, .long x, .retAddr 0, .long z, .retAddr 0, .long (-1), .retAddr 0, .long n, .retAddr 0, .int (Int32.ofNat i), l15, l16, l17, .retAddr 0, l19, l20] [] t I L Rf := by
  intro m
  induction m with
  | zero =>
    intro i x y z n l15 l16 l17 l19 l20 him hdn hok hr hz
    have hq0 : x = 0 := hdn
    have e0 : n = R := by rw [← hr, show u_cnt 0 x y = 0 from by rw [u_cnt], Int64.add_zero]
    subst e0
    refine pv_iload_14 (pc := 16) dX11_undoing_16 ?_
    refine pv_sipush (pc := 18) (v := 1000) dX11_undoing_18 (by decide) ?_
    refine pv_icmp_ge (pc := 21) (tgt := 244) dX11_undoing_21 (by decide) (fun h21 => absurd h21 (not_not_intro (by rw [i_lt, i_of (by omega), show (1000 : Int32).toInt = 1000 by decide]; omega))) (fun h21 => ?_)
    refine pv_lload_6 (pc := 24) dX11_undoing_24 ?_
    refine pv_lconst (pc := 26) (v := 0) dX11_undoing_26 (by decide) ?_
    refine pv_lcmp_eq (pc := 27) (tgt := 244) dX11_undoing_27 dX11_undoing_28 (by decide) (fun h27 => ?_) (fun h27 => absurd h27 (not_not_intro hq0))
    refine pv_lload_4 (pc := 244) dX11_undoing_244 ?_
    refine pv_ldc2 (pc := 246) dX11_undoing_246 k_X11_224 ?_
    refine pv_lcmp_ne (pc := 249) (tgt := 258) dX11_undoing_249 dX11_undoing_250 (by decide) (fun h249 => absurd h249 (not_not_intro rfl)) (fun h249 => ?_)
    refine pv_lload_12 (pc := 253) dX11_undoing_253 ?_
    refine pv_goto (pc := 255) (tgt := 261) dX11_undoing_255 (by decide) ?_
    refine pv_lret (pc := 261) dX11_undoing_261 rfl ?_
    exact hQ
  | succ m ih =>
    intro i x y z n l15 l16 l17 l19 l20 him hdn hok hr hz
    by_cases hq0 : x = 0
    · skip
      have e0 : n = R := by rw [← hr, u_cnt_z hq0, Int64.add_zero]
      subst e0
      refine pv_iload_14 (pc := 16) dX11_undoing_16 ?_
      refine pv_sipush (pc := 18) (v := 1000) dX11_undoing_18 (by decide) ?_
      refine pv_icmp_ge (pc := 21) (tgt := 244) dX11_undoing_21 (by decide) (fun h21 => absurd h21 (not_not_intro (by rw [i_lt, i_of (by omega), show (1000 : Int32).toInt = 1000 by decide]; omega))) (fun h21 => ?_)
      refine pv_lload_6 (pc := 24) dX11_undoing_24 ?_
      refine pv_lconst (pc := 26) (v := 0) dX11_undoing_26 (by decide) ?_
      refine pv_lcmp_eq (pc := 27) (tgt := 244) dX11_undoing_27 dX11_undoing_28 (by decide) (fun h27 => ?_) (fun h27 => absurd h27 (not_not_intro hq0))
      refine pv_lload_4 (pc := 244) dX11_undoing_244 ?_
      refine pv_ldc2 (pc := 246) dX11_undoing_246 k_X11_224 ?_
      refine pv_lcmp_ne (pc := 249) (tgt := 258) dX11_undoing_249 dX11_undoing_250 (by decide) (fun h249 => absurd h249 (not_not_intro rfl)) (fun h249 => ?_)
      refine pv_lload_12 (pc := 253) dX11_undoing_253 ?_
      refine pv_goto (pc := 255) (tgt := 261) dX11_undoing_255 (by decide) ?_
      refine pv_lret (pc := 261) dX11_undoing_261 rfl ?_
      exact hQ
    · have hdn : u_done m (u_x x y) (u_y x y) := hdn.elim (fun q => absurd q hq0) id
      have hzy : z = y := hz.elim (fun q => absurd q hq0) id
      rw [hzy]
      by_cases hx : x < 0
      · skip
        refine pv_iload_14 (pc := 16) dX11_undoing_16 ?_
        refine pv_sipush (pc := 18) (v := 1000) dX11_undoing_18 (by decide) ?_
        refine pv_icmp_ge (pc := 21) (tgt := 244) dX11_undoing_21 (by decide) (fun h21 => absurd h21 (not_not_intro (by rw [i_lt, i_of (by omega), show (1000 : Int32).toInt = 1000 by decide]; omega))) (fun h21 => ?_)
        refine pv_lload_6 (pc := 24) dX11_undoing_24 ?_
        refine pv_lconst (pc := 26) (v := 0) dX11_undoing_26 (by decide) ?_
        refine pv_lcmp_eq (pc := 27) (tgt := 244) dX11_undoing_27 dX11_undoing_28 (by decide) (fun h27 => absurd h27 hq0) (fun h27 => ?_)
        refine pv_lload_8 (pc := 31) dX11_undoing_31 ?_
        refine pv_lload_6 (pc := 33) dX11_undoing_33 ?_
        refine pv_lsub (pc := 35) dX11_undoing_35 ?_
        refine pv_lstore_15 (pc := 36) dX11_undoing_36 (by decide) rfl ?_
        refine pv_lload_6 (pc := 38) dX11_undoing_38 ?_
        refine pv_lconst (pc := 40) (v := 0) dX11_undoing_40 (by decide) ?_
        refine pv_lcmp_ge (pc := 41) (tgt := 91) dX11_undoing_41 dX11_undoing_42 (by decide) (fun h41 => absurd h41 (not_not_intro hx)) (fun h41 => ?_)
        refine pv_lload_8 (pc := 45) dX11_undoing_45 ?_
        refine pv_lconst (pc := 47) (v := 0) dX11_undoing_47 (by decide) ?_
        refine pv_lcmp_le (pc := 48) (tgt := 91) dX11_undoing_48 dX11_undoing_49 (by decide) (fun h48 => absurd h48 (by have := (u_A hok hx).1; rw [l64_lt, l64_0]; omega)) (fun h48 => ?_)
        refine pv_lload_8 (pc := 52) dX11_undoing_52 ?_
        refine pv_lconst (pc := 54) (v := 1) dX11_undoing_54 (by decide) ?_
        refine pv_lsub (pc := 55) dX11_undoing_55 ?_
        refine pv_lload_6 (pc := 56) dX11_undoing_56 ?_
        refine pv_lsub (pc := 58) dX11_undoing_58 ?_
        refine pv_lload_8 (pc := 59) dX11_undoing_59 ?_
        refine pv_ldiv (pc := 61) dX11_undoing_61 (l64_n0.mpr (by have := (u_A hok hx).1; omega)) ?_
        rw [x_kA]
        refine pv_lstore_17 (pc := 62) dX11_undoing_62 (by decide) rfl ?_
        refine pv_lload_6 (pc := 64) dX11_undoing_64 ?_
        refine pv_lload_17 (pc := 66) dX11_undoing_66 ?_
        refine pv_lload_8 (pc := 68) dX11_undoing_68 ?_
        refine pv_lmul (pc := 70) dX11_undoing_70 ?_
        refine pv_ladd (pc := 71) dX11_undoing_71 ?_
        refine pv_lstore_6 (pc := 72) dX11_undoing_72 (by decide) rfl ?_
        refine pv_lload_10 (pc := 74) dX11_undoing_74 ?_
        refine pv_lconst (pc := 76) (v := 0) dX11_undoing_76 (by decide) ?_
        refine pv_lcmp_lt (pc := 77) (tgt := 209) dX11_undoing_77 dX11_undoing_78 (by decide) (fun h77 => ?_) (fun h77 => absurd h77 (not_not_intro (by decide)))
        refine pv_lload_12 (pc := 209) dX11_undoing_209 ?_
        refine pv_lload_17 (pc := 211) dX11_undoing_211 ?_
        refine pv_ladd (pc := 213) dX11_undoing_213 ?_
        refine pv_lstore_12 (pc := 214) dX11_undoing_214 (by decide) rfl ?_
        refine pv_lload_4 (pc := 216) dX11_undoing_216 ?_
        refine pv_ldc2 (pc := 218) dX11_undoing_218 k_X11_224 ?_
        refine pv_lcmp_ne (pc := 221) (tgt := 231) dX11_undoing_221 dX11_undoing_222 (by decide) (fun h221 => absurd h221 (not_not_intro rfl)) (fun h221 => ?_)
        refine pv_ldc2 (pc := 225) dX11_undoing_225 k_X11_224 ?_
        refine pv_goto (pc := 228) (tgt := 236) dX11_undoing_228 (by decide) ?_
        refine pv_lstore_10 (pc := 236) dX11_undoing_236 (by decide) rfl ?_
        refine pv_iinc_14 (pc := 238) (v := _ + 1) dX11_undoing_238 rfl (by decide) rfl ?_
        refine pv_goto (pc := 241) (tgt := 16) dX11_undoing_241 (by decide) ?_
        have e1 : u_k x y = (-x + y - 1) / y := by rw [u_k, if_pos hx]
        have e2 : u_x x y = x + (-x + y - 1) / y * y := by rw [u_x, if_pos hx]
        have e3 : u_y x y = y := by rw [u_y, if_pos hx]
        rw [i_inc]
        rw [u_cnt_e h27, e1, ← Int64.add_assoc] at hr
        have hok1 := (u_next hok h27).1
        have hdn1 := hdn
        rw [e2] at hr hok1 hdn1
        rw [e3] at hr hok1 hdn1
        exact ih (i + 1) _ y _ _ _ _ _ _ _ (by omega) hdn1 hok1 hr (Or.inr rfl)
      · by_cases hc : x < y ∧ y ≤ 2 * x
        · skip
          refine pv_iload_14 (pc := 16) dX11_undoing_16 ?_
          refine pv_sipush (pc := 18) (v := 1000) dX11_undoing_18 (by decide) ?_
          refine pv_icmp_ge (pc := 21) (tgt := 244) dX11_undoing_21 (by decide) (fun h21 => absurd h21 (not_not_intro (by rw [i_lt, i_of (by omega), show (1000 : Int32).toInt = 1000 by decide]; omega))) (fun h21 => ?_)
          refine pv_lload_6 (pc := 24) dX11_undoing_24 ?_
          refine pv_lconst (pc := 26) (v := 0) dX11_undoing_26 (by decide) ?_
          refine pv_lcmp_eq (pc := 27) (tgt := 244) dX11_undoing_27 dX11_undoing_28 (by decide) (fun h27 => absurd h27 hq0) (fun h27 => ?_)
          refine pv_lload_8 (pc := 31) dX11_undoing_31 ?_
          refine pv_lload_6 (pc := 33) dX11_undoing_33 ?_
          refine pv_lsub (pc := 35) dX11_undoing_35 ?_
          refine pv_lstore_15 (pc := 36) dX11_undoing_36 (by decide) rfl ?_
          refine pv_lload_6 (pc := 38) dX11_undoing_38 ?_
          refine pv_lconst (pc := 40) (v := 0) dX11_undoing_40 (by decide) ?_
          refine pv_lcmp_ge (pc := 41) (tgt := 91) dX11_undoing_41 dX11_undoing_42 (by decide) (fun h41 => ?_) (fun h41 => absurd h41 hx)
          refine pv_lload_15 (pc := 91) dX11_undoing_91 ?_
          refine pv_lconst (pc := 93) (v := 0) dX11_undoing_93 (by decide) ?_
          refine pv_lcmp_le (pc := 94) (tgt := 182) dX11_undoing_94 dX11_undoing_95 (by decide) (fun h94 => absurd h94 (not_not_intro ((x_B hok hx h27).mp hc).1)) (fun h94 => ?_)
          refine pv_lload_8 (pc := 98) dX11_undoing_98 ?_
          refine pv_lload_15 (pc := 100) dX11_undoing_100 ?_
          refine pv_ldiv (pc := 102) dX11_undoing_102 (l64_n0.mpr (by have q := u_B hok hx h27 hc; rw [q.2.2.2.1]; omega)) ?_
          refine pv_lconst (pc := 103) (v := 1) dX11_undoing_103 (by decide) ?_
          refine pv_lcmp_le (pc := 104) (tgt := 182) dX11_undoing_104 dX11_undoing_105 (by decide) (fun h104 => absurd h104 (not_not_intro ((x_B hok hx h27).mp hc).2)) (fun h104 => ?_)
          refine pv_lload_8 (pc := 108) dX11_undoing_108 ?_
          refine pv_lload_15 (pc := 110) dX11_undoing_110 ?_
          refine pv_ldiv (pc := 112) dX11_undoing_112 (l64_n0.mpr (by have q := u_B hok hx h27 hc; rw [q.2.2.2.1]; omega)) ?_
          refine pv_lconst (pc := 113) (v := 1) dX11_undoing_113 (by decide) ?_
          refine pv_lsub (pc := 114) dX11_undoing_114 ?_
          rw [x_rnd hok hx h27 hc]
          refine pv_lstore_19 (pc := 115) dX11_undoing_115 (by decide) rfl ?_
          refine pv_ldc2 (pc := 117) dX11_undoing_117 k_X11_366 ?_
          refine pv_lload_19 (pc := 120) dX11_undoing_120 ?_
          refine pv_lmul (pc := 122) dX11_undoing_122 ?_
          refine pv_lstore_17 (pc := 123) dX11_undoing_123 (by decide) rfl ?_
          refine pv_lload_6 (pc := 125) dX11_undoing_125 ?_
          refine pv_lload_19 (pc := 127) dX11_undoing_127 ?_
          refine pv_lload_15 (pc := 129) dX11_undoing_129 ?_
          refine pv_lmul (pc := 131) dX11_undoing_131 ?_
          refine pv_lsub (pc := 132) dX11_undoing_132 ?_
          refine pv_lstore_6 (pc := 133) dX11_undoing_133 (by decide) rfl ?_
          refine pv_lload_8 (pc := 135) dX11_undoing_135 ?_
          refine pv_lload_19 (pc := 137) dX11_undoing_137 ?_
          refine pv_lload_15 (pc := 139) dX11_undoing_139 ?_
          refine pv_lmul (pc := 141) dX11_undoing_141 ?_
          refine pv_lsub (pc := 142) dX11_undoing_142 ?_
          refine pv_lstore_8 (pc := 143) dX11_undoing_143 (by decide) rfl ?_
          refine pv_lload_10 (pc := 145) dX11_undoing_145 ?_
          refine pv_lconst (pc := 147) (v := 0) dX11_undoing_147 (by decide) ?_
          refine pv_lcmp_lt (pc := 148) (tgt := 179) dX11_undoing_148 dX11_undoing_149 (by decide) (fun h148 => ?_) (fun h148 => absurd h148 (not_not_intro (by decide)))
          refine pv_goto (pc := 179) (tgt := 209) dX11_undoing_179 (by decide) ?_
          refine pv_lload_12 (pc := 209) dX11_undoing_209 ?_
          refine pv_lload_17 (pc := 211) dX11_undoing_211 ?_
          refine pv_ladd (pc := 213) dX11_undoing_213 ?_
          refine pv_lstore_12 (pc := 214) dX11_undoing_214 (by decide) rfl ?_
          refine pv_lload_4 (pc := 216) dX11_undoing_216 ?_
          refine pv_ldc2 (pc := 218) dX11_undoing_218 k_X11_224 ?_
          refine pv_lcmp_ne (pc := 221) (tgt := 231) dX11_undoing_221 dX11_undoing_222 (by decide) (fun h221 => absurd h221 (not_not_intro rfl)) (fun h221 => ?_)
          refine pv_ldc2 (pc := 225) dX11_undoing_225 k_X11_224 ?_
          refine pv_goto (pc := 228) (tgt := 236) dX11_undoing_228 (by decide) ?_
          refine pv_lstore_10 (pc := 236) dX11_undoing_236 (by decide) rfl ?_
          refine pv_iinc_14 (pc := 238) (v := _ + 1) dX11_undoing_238 rfl (by decide) rfl ?_
          refine pv_goto (pc := 241) (tgt := 16) dX11_undoing_241 (by decide) ?_
          have e1 : u_k x y = 3 * (x / (y - x)) := by rw [u_k, if_neg hx, if_pos hc]
          have e2 : u_x x y = x - x / (y - x) * (y - x) := by rw [u_x, if_neg hx, if_pos hc]
          have e3 : u_y x y = y - x / (y - x) * (y - x) := by rw [u_y, if_neg hx, if_pos hc]
          rw [i_inc]
          rw [u_cnt_e h27, e1, ← Int64.add_assoc] at hr
          have hok1 := (u_next hok h27).1
          have hdn1 := hdn
          rw [e2] at hr hok1 hdn1
          rw [e3] at hr hok1 hdn1
          exact ih (i + 1) _ (y - x / (y - x) * (y - x)) _ _ _ _ _ _ _ (by omega) hdn1 hok1 hr (Or.inr rfl)
        · skip
          refine pv_iload_14 (pc := 16) dX11_undoing_16 ?_
          refine pv_sipush (pc := 18) (v := 1000) dX11_undoing_18 (by decide) ?_
          refine pv_icmp_ge (pc := 21) (tgt := 244) dX11_undoing_21 (by decide) (fun h21 => absurd h21 (not_not_intro (by rw [i_lt, i_of (by omega), show (1000 : Int32).toInt = 1000 by decide]; omega))) (fun h21 => ?_)
          refine pv_lload_6 (pc := 24) dX11_undoing_24 ?_
          refine pv_lconst (pc := 26) (v := 0) dX11_undoing_26 (by decide) ?_
          refine pv_lcmp_eq (pc := 27) (tgt := 244) dX11_undoing_27 dX11_undoing_28 (by decide) (fun h27 => absurd h27 hq0) (fun h27 => ?_)
          refine pv_lload_8 (pc := 31) dX11_undoing_31 ?_
          refine pv_lload_6 (pc := 33) dX11_undoing_33 ?_
          refine pv_lsub (pc := 35) dX11_undoing_35 ?_
          refine pv_lstore_15 (pc := 36) dX11_undoing_36 (by decide) rfl ?_
          refine pv_lload_6 (pc := 38) dX11_undoing_38 ?_
          refine pv_lconst (pc := 40) (v := 0) dX11_undoing_40 (by decide) ?_
          refine pv_lcmp_ge (pc := 41) (tgt := 91) dX11_undoing_41 dX11_undoing_42 (by decide) (fun h41 => ?_) (fun h41 => absurd h41 hx)
          refine pv_lload_15 (pc := 91) dX11_undoing_91 ?_
          refine pv_lconst (pc := 93) (v := 0) dX11_undoing_93 (by decide) ?_
          refine pv_lcmp_le (pc := 94) (tgt := 182) dX11_undoing_94 dX11_undoing_95 (by decide) (fun h94 => ?_) (fun h94 => ?_)
          · refine pv_lload_6 (pc := 182) dX11_undoing_182 ?_
            refine pv_lstore_19 (pc := 184) dX11_undoing_184 (by decide) rfl ?_
            refine pv_lconst (pc := 186) (v := 1) dX11_undoing_186 (by decide) ?_
            refine pv_lstore_17 (pc := 187) dX11_undoing_187 (by decide) rfl ?_
            refine pv_lload_8 (pc := 189) dX11_undoing_189 ?_
            refine pv_lneg (pc := 191) dX11_undoing_191 ?_
            refine pv_lstore_6 (pc := 192) dX11_undoing_192 (by decide) rfl ?_
            refine pv_lload_19 (pc := 194) dX11_undoing_194 ?_
            refine pv_lstore_8 (pc := 196) dX11_undoing_196 (by decide) rfl ?_
            refine pv_lload_10 (pc := 198) dX11_undoing_198 ?_
            refine pv_lconst (pc := 200) (v := 0) dX11_undoing_200 (by decide) ?_
            refine pv_lcmp_ne (pc := 201) (tgt := 209) dX11_undoing_201 dX11_undoing_202 (by decide) (fun h201 => ?_) (fun h201 => absurd h201 (by decide))
            refine pv_lload_12 (pc := 209) dX11_undoing_209 ?_
            refine pv_lload_17 (pc := 211) dX11_undoing_211 ?_
            refine pv_ladd (pc := 213) dX11_undoing_213 ?_
            refine pv_lstore_12 (pc := 214) dX11_undoing_214 (by decide) rfl ?_
            refine pv_lload_4 (pc := 216) dX11_undoing_216 ?_
            refine pv_ldc2 (pc := 218) dX11_undoing_218 k_X11_224 ?_
            refine pv_lcmp_ne (pc := 221) (tgt := 231) dX11_undoing_221 dX11_undoing_222 (by decide) (fun h221 => absurd h221 (not_not_intro rfl)) (fun h221 => ?_)
            refine pv_ldc2 (pc := 225) dX11_undoing_225 k_X11_224 ?_
            refine pv_goto (pc := 228) (tgt := 236) dX11_undoing_228 (by decide) ?_
            refine pv_lstore_10 (pc := 236) dX11_undoing_236 (by decide) rfl ?_
            refine pv_iinc_14 (pc := 238) (v := _ + 1) dX11_undoing_238 rfl (by decide) rfl ?_
            refine pv_goto (pc := 241) (tgt := 16) dX11_undoing_241 (by decide) ?_
            have e1 : u_k x y = 1 := by rw [u_k, if_neg hx, if_neg hc]
            have e2 : u_x x y = -y := by rw [u_x, if_neg hx, if_neg hc]
            have e3 : -y = 0 ∨ x = u_y x y := by rw [u_y, if_neg hx, if_neg hc]; by_cases z0 : -y = 0; exact Or.inl z0; exact Or.inr (by rw [if_neg z0])
            rw [i_inc]
            rw [u_cnt_e h27, e1, ← Int64.add_assoc] at hr
            have hok1 := (u_next hok h27).1
            have hdn1 := hdn
            rw [e2] at hr hok1 hdn1
            skip
            exact ih (i + 1) _ (u_y x y) _ _ _ _ _ _ _ (by omega) hdn1 hok1 hr e3
          · refine pv_lload_8 (pc := 98) dX11_undoing_98 ?_
            refine pv_lload_15 (pc := 100) dX11_undoing_100 ?_
            refine pv_ldiv (pc := 102) dX11_undoing_102 (l64_n0.mpr (by have f := h94; rw [l64_lt, l64_0] at f; omega)) ?_
            refine pv_lconst (pc := 103) (v := 1) dX11_undoing_103 (by decide) ?_
            refine pv_lcmp_le (pc := 104) (tgt := 182) dX11_undoing_104 dX11_undoing_105 (by decide) (fun h104 => ?_) (fun h104 => absurd h104 (fun z => hc ((x_B hok hx h27).mpr ⟨by first | exact h94 | exact Classical.not_not.mp h94, z⟩)))
            refine pv_lload_6 (pc := 182) dX11_undoing_182 ?_
            refine pv_lstore_19 (pc := 184) dX11_undoing_184 (by decide) rfl ?_
            refine pv_lconst (pc := 186) (v := 1) dX11_undoing_186 (by decide) ?_
            refine pv_lstore_17 (pc := 187) dX11_undoing_187 (by decide) rfl ?_
            refine pv_lload_8 (pc := 189) dX11_undoing_189 ?_
            refine pv_lneg (pc := 191) dX11_undoing_191 ?_
            refine pv_lstore_6 (pc := 192) dX11_undoing_192 (by decide) rfl ?_
            refine pv_lload_19 (pc := 194) dX11_undoing_194 ?_
            refine pv_lstore_8 (pc := 196) dX11_undoing_196 (by decide) rfl ?_
            refine pv_lload_10 (pc := 198) dX11_undoing_198 ?_
            refine pv_lconst (pc := 200) (v := 0) dX11_undoing_200 (by decide) ?_
            refine pv_lcmp_ne (pc := 201) (tgt := 209) dX11_undoing_201 dX11_undoing_202 (by decide) (fun h201 => ?_) (fun h201 => absurd h201 (by decide))
            refine pv_lload_12 (pc := 209) dX11_undoing_209 ?_
            refine pv_lload_17 (pc := 211) dX11_undoing_211 ?_
            refine pv_ladd (pc := 213) dX11_undoing_213 ?_
            refine pv_lstore_12 (pc := 214) dX11_undoing_214 (by decide) rfl ?_
            refine pv_lload_4 (pc := 216) dX11_undoing_216 ?_
            refine pv_ldc2 (pc := 218) dX11_undoing_218 k_X11_224 ?_
            refine pv_lcmp_ne (pc := 221) (tgt := 231) dX11_undoing_221 dX11_undoing_222 (by decide) (fun h221 => absurd h221 (not_not_intro rfl)) (fun h221 => ?_)
            refine pv_ldc2 (pc := 225) dX11_undoing_225 k_X11_224 ?_
            refine pv_goto (pc := 228) (tgt := 236) dX11_undoing_228 (by decide) ?_
            refine pv_lstore_10 (pc := 236) dX11_undoing_236 (by decide) rfl ?_
            refine pv_iinc_14 (pc := 238) (v := _ + 1) dX11_undoing_238 rfl (by decide) rfl ?_
            refine pv_goto (pc := 241) (tgt := 16) dX11_undoing_241 (by decide) ?_
            have e1 : u_k x y = 1 := by rw [u_k, if_neg hx, if_neg hc]
            have e2 : u_x x y = -y := by rw [u_x, if_neg hx, if_neg hc]
            have e3 : -y = 0 ∨ x = u_y x y := by rw [u_y, if_neg hx, if_neg hc]; by_cases z0 : -y = 0; exact Or.inl z0; exact Or.inr (by rw [if_neg z0])
            rw [i_inc]
            rw [u_cnt_e h27, e1, ← Int64.add_assoc] at hr
            have hok1 := (u_next hok h27).1
            have hdn1 := hdn
            rw [e2] at hr hok1 hdn1
            skip
            exact ih (i + 1) _ (u_y x y) _ _ _ _ _ _ _ (by omega) hdn1 hok1 hr e3

set_option maxRecDepth 100000 in
set_option maxHeartbeats 4000000 in
theorem l_ua {G : pv_G} {d : Nat} {Q : pv_Q} {a b pl : Int64} {A : Int32} {t : pv_T} {I : pv_I} {L : pv_L} {Rf : pv_R} (hpl : ¬ pl = -1) (hQ : Q (some (.long A.toInt64)) t I L Rf) : ∀ (m i : Nat) (x y z n l : Int64) (l15 l16 l17 l19 l20 : Value), i + m < 1000 → u_done m x y → u_ok x y → 0 ≤ l.toInt → u_at m x y l (-1) = A → (x = 0 ∨ z = y) →
    pv_V G mX11_undoing d 0 0 Q 0 0 16 [.long a, .retAddr 0, .long b, .retAddr 0, .long pl, .retAddr 0, .long x, .retAddr 0, .long z, .retAddr 0, .long l, .retAddr 0, .long n, .retAddr 0, .int (Int32.ofNat i), l15, l16, l17, .retAddr 0, l19, l20] [] t I L Rf := by
  intro m
  induction m with
  | zero =>
    intro i x y z n l l15 l16 l17 l19 l20 him hdn hok hl ha hz
    have hq0 : x = 0 := hdn
    have e0 : A = -1 := by rw [← ha, u_at]
    subst e0
    refine pv_iload_14 (pc := 16) dX11_undoing_16 ?_
    refine pv_sipush (pc := 18) (v := 1000) dX11_undoing_18 (by decide) ?_
    refine pv_icmp_ge (pc := 21) (tgt := 244) dX11_undoing_21 (by decide) (fun h21 => absurd h21 (not_not_intro (by rw [i_lt, i_of (by omega), show (1000 : Int32).toInt = 1000 by decide]; omega))) (fun h21 => ?_)
    refine pv_lload_6 (pc := 24) dX11_undoing_24 ?_
    refine pv_lconst (pc := 26) (v := 0) dX11_undoing_26 (by decide) ?_
    refine pv_lcmp_eq (pc := 27) (tgt := 244) dX11_undoing_27 dX11_undoing_28 (by decide) (fun h27 => ?_) (fun h27 => absurd h27 (not_not_intro hq0))
    refine pv_lload_4 (pc := 244) dX11_undoing_244 ?_
    refine pv_ldc2 (pc := 246) dX11_undoing_246 k_X11_224 ?_
    refine pv_lcmp_ne (pc := 249) (tgt := 258) dX11_undoing_249 dX11_undoing_250 (by decide) (fun h249 => ?_) (fun h249 => absurd h249 hpl)
    refine pv_ldc2 (pc := 258) dX11_undoing_258 k_X11_224 ?_
    refine pv_lret (pc := 261) dX11_undoing_261 rfl ?_
    exact hQ
  | succ m ih =>
    intro i x y z n l l15 l16 l17 l19 l20 him hdn hok hl ha hz
    by_cases hq0 : x = 0
    · skip
      have e0 : A = -1 := by rw [← ha, u_at_z hq0]
      subst e0
      refine pv_iload_14 (pc := 16) dX11_undoing_16 ?_
      refine pv_sipush (pc := 18) (v := 1000) dX11_undoing_18 (by decide) ?_
      refine pv_icmp_ge (pc := 21) (tgt := 244) dX11_undoing_21 (by decide) (fun h21 => absurd h21 (not_not_intro (by rw [i_lt, i_of (by omega), show (1000 : Int32).toInt = 1000 by decide]; omega))) (fun h21 => ?_)
      refine pv_lload_6 (pc := 24) dX11_undoing_24 ?_
      refine pv_lconst (pc := 26) (v := 0) dX11_undoing_26 (by decide) ?_
      refine pv_lcmp_eq (pc := 27) (tgt := 244) dX11_undoing_27 dX11_undoing_28 (by decide) (fun h27 => ?_) (fun h27 => absurd h27 (not_not_intro hq0))
      refine pv_lload_4 (pc := 244) dX11_undoing_244 ?_
      refine pv_ldc2 (pc := 246) dX11_undoing_246 k_X11_224 ?_
      refine pv_lcmp_ne (pc := 249) (tgt := 258) dX11_undoing_249 dX11_undoing_250 (by decide) (fun h249 => ?_) (fun h249 => absurd h249 hpl)
      refine pv_ldc2 (pc := 258) dX11_undoing_258 k_X11_224 ?_
      refine pv_lret (pc := 261) dX11_undoing_261 rfl ?_
      exact hQ
    · have hdn : u_done m (u_x x y) (u_y x y) := hdn.elim (fun q => absurd q hq0) id
      have hzy : z = y := hz.elim (fun q => absurd q hq0) id
      rw [hzy]
      by_cases hx : x < 0
      · skip
        refine pv_iload_14 (pc := 16) dX11_undoing_16 ?_
        refine pv_sipush (pc := 18) (v := 1000) dX11_undoing_18 (by decide) ?_
        refine pv_icmp_ge (pc := 21) (tgt := 244) dX11_undoing_21 (by decide) (fun h21 => absurd h21 (not_not_intro (by rw [i_lt, i_of (by omega), show (1000 : Int32).toInt = 1000 by decide]; omega))) (fun h21 => ?_)
        refine pv_lload_6 (pc := 24) dX11_undoing_24 ?_
        refine pv_lconst (pc := 26) (v := 0) dX11_undoing_26 (by decide) ?_
        refine pv_lcmp_eq (pc := 27) (tgt := 244) dX11_undoing_27 dX11_undoing_28 (by decide) (fun h27 => absurd h27 hq0) (fun h27 => ?_)
        refine pv_lload_8 (pc := 31) dX11_undoing_31 ?_
        refine pv_lload_6 (pc := 33) dX11_undoing_33 ?_
        refine pv_lsub (pc := 35) dX11_undoing_35 ?_
        refine pv_lstore_15 (pc := 36) dX11_undoing_36 (by decide) rfl ?_
        refine pv_lload_6 (pc := 38) dX11_undoing_38 ?_
        refine pv_lconst (pc := 40) (v := 0) dX11_undoing_40 (by decide) ?_
        refine pv_lcmp_ge (pc := 41) (tgt := 91) dX11_undoing_41 dX11_undoing_42 (by decide) (fun h41 => absurd h41 (not_not_intro hx)) (fun h41 => ?_)
        refine pv_lload_8 (pc := 45) dX11_undoing_45 ?_
        refine pv_lconst (pc := 47) (v := 0) dX11_undoing_47 (by decide) ?_
        refine pv_lcmp_le (pc := 48) (tgt := 91) dX11_undoing_48 dX11_undoing_49 (by decide) (fun h48 => absurd h48 (by have := (u_A hok hx).1; rw [l64_lt, l64_0]; omega)) (fun h48 => ?_)
        refine pv_lload_8 (pc := 52) dX11_undoing_52 ?_
        refine pv_lconst (pc := 54) (v := 1) dX11_undoing_54 (by decide) ?_
        refine pv_lsub (pc := 55) dX11_undoing_55 ?_
        refine pv_lload_6 (pc := 56) dX11_undoing_56 ?_
        refine pv_lsub (pc := 58) dX11_undoing_58 ?_
        refine pv_lload_8 (pc := 59) dX11_undoing_59 ?_
        refine pv_ldiv (pc := 61) dX11_undoing_61 (l64_n0.mpr (by have := (u_A hok hx).1; omega)) ?_
        rw [x_kA]
        refine pv_lstore_17 (pc := 62) dX11_undoing_62 (by decide) rfl ?_
        refine pv_lload_6 (pc := 64) dX11_undoing_64 ?_
        refine pv_lload_17 (pc := 66) dX11_undoing_66 ?_
        refine pv_lload_8 (pc := 68) dX11_undoing_68 ?_
        refine pv_lmul (pc := 70) dX11_undoing_70 ?_
        refine pv_ladd (pc := 71) dX11_undoing_71 ?_
        refine pv_lstore_6 (pc := 72) dX11_undoing_72 (by decide) rfl ?_
        refine pv_lload_10 (pc := 74) dX11_undoing_74 ?_
        refine pv_lconst (pc := 76) (v := 0) dX11_undoing_76 (by decide) ?_
        refine pv_lcmp_lt (pc := 77) (tgt := 209) dX11_undoing_77 dX11_undoing_78 (by decide) (fun h77 => absurd h77 (by rw [l64_lt, l64_0]; omega)) (fun h77 => ?_)
        refine pv_lload_10 (pc := 81) dX11_undoing_81 ?_
        refine pv_lload_17 (pc := 83) dX11_undoing_83 ?_
        refine pv_lcmp_ge (pc := 85) (tgt := 209) dX11_undoing_85 dX11_undoing_86 (by decide) (fun h85 => ?_) (fun h85 => ?_)
        · refine pv_lload_12 (pc := 209) dX11_undoing_209 ?_
          refine pv_lload_17 (pc := 211) dX11_undoing_211 ?_
          refine pv_ladd (pc := 213) dX11_undoing_213 ?_
          refine pv_lstore_12 (pc := 214) dX11_undoing_214 (by decide) rfl ?_
          refine pv_lload_4 (pc := 216) dX11_undoing_216 ?_
          refine pv_ldc2 (pc := 218) dX11_undoing_218 k_X11_224 ?_
          refine pv_lcmp_ne (pc := 221) (tgt := 231) dX11_undoing_221 dX11_undoing_222 (by decide) (fun h221 => ?_) (fun h221 => absurd h221 hpl)
          refine pv_lload_10 (pc := 231) dX11_undoing_231 ?_
          refine pv_lload_17 (pc := 233) dX11_undoing_233 ?_
          refine pv_lsub (pc := 235) dX11_undoing_235 ?_
          refine pv_lstore_10 (pc := 236) dX11_undoing_236 (by decide) rfl ?_
          refine pv_iinc_14 (pc := 238) (v := _ + 1) dX11_undoing_238 rfl (by decide) rfl ?_
          refine pv_goto (pc := 241) (tgt := 16) dX11_undoing_241 (by decide) ?_
          have e1 : u_k x y = (-x + y - 1) / y := by rw [u_k, if_pos hx]
          have e2 : u_x x y = x + (-x + y - 1) / y * y := by rw [u_x, if_pos hx]
          have e3 : u_y x y = y := by rw [u_y, if_pos hx]
          have kb := u_kb hok h27
          rw [e1] at kb
          have hlk : ¬ l.toInt < ((-x + y - 1) / y).toInt := fun z => h85 (by rw [l64_lt]; exact z)
          have lb := Int64.toInt_lt l
          have es : (l - (-x + y - 1) / y).toInt = l.toInt - ((-x + y - 1) / y).toInt := l64_sub (by omega) (by omega)
          rw [i_inc]
          rw [u_at_e h27, e1, if_neg (fun z => hlk (by have z2 := z.2; rw [l64_lt] at z2; exact z2))] at ha
          have hok1 := (u_next hok h27).1
          have hdn1 := hdn
          rw [e2] at ha hok1 hdn1
          rw [e3] at ha hok1 hdn1
          exact ih (i + 1) _ y _ _ _ _ _ _ _ _ (by omega) hdn1 hok1 (by omega) ha (Or.inr rfl)
        · refine pv_lconst (pc := 89) (v := 0) dX11_undoing_89 (by decide) ?_
          refine pv_lret (pc := 90) dX11_undoing_90 rfl ?_
          have e1 : u_k x y = (-x + y - 1) / y := by rw [u_k, if_pos hx]
          have e2 : u_x x y = x + (-x + y - 1) / y * y := by rw [u_x, if_pos hx]
          have e3 : u_y x y = y := by rw [u_y, if_pos hx]
          have e4 : u_s x y l = 0 := by rw [u_s, if_pos hx]
          have kb := u_kb hok h27
          have lb := Int64.toInt_lt l
          rw [u_at_e h27, e1] at ha
          rw [e1] at kb
          have hl0 : 0 ≤ l.toInt := hl
          have hlk : l.toInt < ((-x + y - 1) / y).toInt := (by have f := h85; first | (rw [l64_lt] at f; exact f) | (have g := Classical.not_not.mp f; rw [l64_lt] at g; exact g))
          have es : (l - (-x + y - 1) / y).toInt = l.toInt - ((-x + y - 1) / y).toInt := l64_sub (by omega) (by omega)
          rw [if_pos ⟨by rw [l64_le, l64_0]; exact hl0, by rw [l64_lt]; exact hlk⟩, u_at_neg m _ _ _ _ (u_next hok h27).1 (by omega) (by omega), e4] at ha
          rw [← ha] at hQ; exact hQ
      · by_cases hc : x < y ∧ y ≤ 2 * x
        · skip
          refine pv_iload_14 (pc := 16) dX11_undoing_16 ?_
          refine pv_sipush (pc := 18) (v := 1000) dX11_undoing_18 (by decide) ?_
          refine pv_icmp_ge (pc := 21) (tgt := 244) dX11_undoing_21 (by decide) (fun h21 => absurd h21 (not_not_intro (by rw [i_lt, i_of (by omega), show (1000 : Int32).toInt = 1000 by decide]; omega))) (fun h21 => ?_)
          refine pv_lload_6 (pc := 24) dX11_undoing_24 ?_
          refine pv_lconst (pc := 26) (v := 0) dX11_undoing_26 (by decide) ?_
          refine pv_lcmp_eq (pc := 27) (tgt := 244) dX11_undoing_27 dX11_undoing_28 (by decide) (fun h27 => absurd h27 hq0) (fun h27 => ?_)
          refine pv_lload_8 (pc := 31) dX11_undoing_31 ?_
          refine pv_lload_6 (pc := 33) dX11_undoing_33 ?_
          refine pv_lsub (pc := 35) dX11_undoing_35 ?_
          refine pv_lstore_15 (pc := 36) dX11_undoing_36 (by decide) rfl ?_
          refine pv_lload_6 (pc := 38) dX11_undoing_38 ?_
          refine pv_lconst (pc := 40) (v := 0) dX11_undoing_40 (by decide) ?_
          refine pv_lcmp_ge (pc := 41) (tgt := 91) dX11_undoing_41 dX11_undoing_42 (by decide) (fun h41 => ?_) (fun h41 => absurd h41 hx)
          refine pv_lload_15 (pc := 91) dX11_undoing_91 ?_
          refine pv_lconst (pc := 93) (v := 0) dX11_undoing_93 (by decide) ?_
          refine pv_lcmp_le (pc := 94) (tgt := 182) dX11_undoing_94 dX11_undoing_95 (by decide) (fun h94 => absurd h94 (not_not_intro ((x_B hok hx h27).mp hc).1)) (fun h94 => ?_)
          refine pv_lload_8 (pc := 98) dX11_undoing_98 ?_
          refine pv_lload_15 (pc := 100) dX11_undoing_100 ?_
          refine pv_ldiv (pc := 102) dX11_undoing_102 (l64_n0.mpr (by have q := u_B hok hx h27 hc; rw [q.2.2.2.1]; omega)) ?_
          refine pv_lconst (pc := 103) (v := 1) dX11_undoing_103 (by decide) ?_
          refine pv_lcmp_le (pc := 104) (tgt := 182) dX11_undoing_104 dX11_undoing_105 (by decide) (fun h104 => absurd h104 (not_not_intro ((x_B hok hx h27).mp hc).2)) (fun h104 => ?_)
          refine pv_lload_8 (pc := 108) dX11_undoing_108 ?_
          refine pv_lload_15 (pc := 110) dX11_undoing_110 ?_
          refine pv_ldiv (pc := 112) dX11_undoing_112 (l64_n0.mpr (by have q := u_B hok hx h27 hc; rw [q.2.2.2.1]; omega)) ?_
          refine pv_lconst (pc := 113) (v := 1) dX11_undoing_113 (by decide) ?_
          refine pv_lsub (pc := 114) dX11_undoing_114 ?_
          rw [x_rnd hok hx h27 hc]
          refine pv_lstore_19 (pc := 115) dX11_undoing_115 (by decide) rfl ?_
          refine pv_ldc2 (pc := 117) dX11_undoing_117 k_X11_366 ?_
          refine pv_lload_19 (pc := 120) dX11_undoing_120 ?_
          refine pv_lmul (pc := 122) dX11_undoing_122 ?_
          refine pv_lstore_17 (pc := 123) dX11_undoing_123 (by decide) rfl ?_
          refine pv_lload_6 (pc := 125) dX11_undoing_125 ?_
          refine pv_lload_19 (pc := 127) dX11_undoing_127 ?_
          refine pv_lload_15 (pc := 129) dX11_undoing_129 ?_
          refine pv_lmul (pc := 131) dX11_undoing_131 ?_
          refine pv_lsub (pc := 132) dX11_undoing_132 ?_
          refine pv_lstore_6 (pc := 133) dX11_undoing_133 (by decide) rfl ?_
          refine pv_lload_8 (pc := 135) dX11_undoing_135 ?_
          refine pv_lload_19 (pc := 137) dX11_undoing_137 ?_
          refine pv_lload_15 (pc := 139) dX11_undoing_139 ?_
          refine pv_lmul (pc := 141) dX11_undoing_141 ?_
          refine pv_lsub (pc := 142) dX11_undoing_142 ?_
          refine pv_lstore_8 (pc := 143) dX11_undoing_143 (by decide) rfl ?_
          refine pv_lload_10 (pc := 145) dX11_undoing_145 ?_
          refine pv_lconst (pc := 147) (v := 0) dX11_undoing_147 (by decide) ?_
          refine pv_lcmp_lt (pc := 148) (tgt := 179) dX11_undoing_148 dX11_undoing_149 (by decide) (fun h148 => absurd h148 (by rw [l64_lt, l64_0]; omega)) (fun h148 => ?_)
          refine pv_lload_10 (pc := 152) dX11_undoing_152 ?_
          refine pv_lload_17 (pc := 154) dX11_undoing_154 ?_
          refine pv_lcmp_ge (pc := 156) (tgt := 179) dX11_undoing_156 dX11_undoing_157 (by decide) (fun h156 => ?_) (fun h156 => ?_)
          · refine pv_goto (pc := 179) (tgt := 209) dX11_undoing_179 (by decide) ?_
            refine pv_lload_12 (pc := 209) dX11_undoing_209 ?_
            refine pv_lload_17 (pc := 211) dX11_undoing_211 ?_
            refine pv_ladd (pc := 213) dX11_undoing_213 ?_
            refine pv_lstore_12 (pc := 214) dX11_undoing_214 (by decide) rfl ?_
            refine pv_lload_4 (pc := 216) dX11_undoing_216 ?_
            refine pv_ldc2 (pc := 218) dX11_undoing_218 k_X11_224 ?_
            refine pv_lcmp_ne (pc := 221) (tgt := 231) dX11_undoing_221 dX11_undoing_222 (by decide) (fun h221 => ?_) (fun h221 => absurd h221 hpl)
            refine pv_lload_10 (pc := 231) dX11_undoing_231 ?_
            refine pv_lload_17 (pc := 233) dX11_undoing_233 ?_
            refine pv_lsub (pc := 235) dX11_undoing_235 ?_
            refine pv_lstore_10 (pc := 236) dX11_undoing_236 (by decide) rfl ?_
            refine pv_iinc_14 (pc := 238) (v := _ + 1) dX11_undoing_238 rfl (by decide) rfl ?_
            refine pv_goto (pc := 241) (tgt := 16) dX11_undoing_241 (by decide) ?_
            have e1 : u_k x y = 3 * (x / (y - x)) := by rw [u_k, if_neg hx, if_pos hc]
            have e2 : u_x x y = x - x / (y - x) * (y - x) := by rw [u_x, if_neg hx, if_pos hc]
            have e3 : u_y x y = y - x / (y - x) * (y - x) := by rw [u_y, if_neg hx, if_pos hc]
            have kb := u_kb hok h27
            rw [e1] at kb
            have hlk : ¬ l.toInt < (3 * (x / (y - x))).toInt := fun z => h156 (by rw [l64_lt]; exact z)
            have lb := Int64.toInt_lt l
            have es : (l - 3 * (x / (y - x))).toInt = l.toInt - (3 * (x / (y - x))).toInt := l64_sub (by omega) (by omega)
            rw [i_inc]
            rw [u_at_e h27, e1, if_neg (fun z => hlk (by have z2 := z.2; rw [l64_lt] at z2; exact z2))] at ha
            have hok1 := (u_next hok h27).1
            have hdn1 := hdn
            rw [e2] at ha hok1 hdn1
            rw [e3] at ha hok1 hdn1
            exact ih (i + 1) _ (y - x / (y - x) * (y - x)) _ _ _ _ _ _ _ _ (by omega) hdn1 hok1 (by omega) ha (Or.inr rfl)
          · refine pv_lload_10 (pc := 160) dX11_undoing_160 ?_
            refine pv_ldc2 (pc := 162) dX11_undoing_162 k_X11_366 ?_
            refine pv_lrem (pc := 165) dX11_undoing_165 (by decide) ?_
            refine pv_lconst (pc := 166) (v := 0) dX11_undoing_166 (by decide) ?_
            refine pv_lcmp_ne (pc := 167) (tgt := 177) dX11_undoing_167 dX11_undoing_168 (by decide) (fun h167 => ?_) (fun h167 => ?_)
            · refine pv_lconst (pc := 177) (v := 0) dX11_undoing_177 (by decide) ?_
              refine pv_lret (pc := 178) dX11_undoing_178 rfl ?_
              have e1 : u_k x y = 3 * (x / (y - x)) := by rw [u_k, if_neg hx, if_pos hc]
              have e2 : u_x x y = x - x / (y - x) * (y - x) := by rw [u_x, if_neg hx, if_pos hc]
              have e3 : u_y x y = y - x / (y - x) * (y - x) := by rw [u_y, if_neg hx, if_pos hc]
              have e4 : u_s x y l = (if l % 3 = 0 then 2 else 0) := by rw [u_s, if_neg hx, if_pos hc]
              have kb := u_kb hok h27
              have lb := Int64.toInt_lt l
              rw [u_at_e h27, e1] at ha
              rw [e1] at kb
              have hl0 : 0 ≤ l.toInt := hl
              have hlk : l.toInt < (3 * (x / (y - x))).toInt := (by have f := h156; first | (rw [l64_lt] at f; exact f) | (have g := Classical.not_not.mp f; rw [l64_lt] at g; exact g))
              have es : (l - 3 * (x / (y - x))).toInt = l.toInt - (3 * (x / (y - x))).toInt := l64_sub (by omega) (by omega)
              rw [if_pos ⟨by rw [l64_le, l64_0]; exact hl0, by rw [l64_lt]; exact hlk⟩, u_at_neg m _ _ _ _ (u_next hok h27).1 (by omega) (by omega), e4] at ha
              first
                | (have f1 : l % 3 = 0 := (by first | exact h167 | exact Classical.not_not.mp h167); rw [if_pos f1] at ha; rw [← ha] at hQ; exact hQ)
                | (have f1 : ¬ l % 3 = 0 := h167; rw [if_neg f1] at ha; rw [← ha] at hQ; exact hQ)
            · refine pv_ldc2 (pc := 171) dX11_undoing_171 k_X11_312 ?_
              refine pv_goto (pc := 174) (tgt := 178) dX11_undoing_174 (by decide) ?_
              refine pv_lret (pc := 178) dX11_undoing_178 rfl ?_
              have e1 : u_k x y = 3 * (x / (y - x)) := by rw [u_k, if_neg hx, if_pos hc]
              have e2 : u_x x y = x - x / (y - x) * (y - x) := by rw [u_x, if_neg hx, if_pos hc]
              have e3 : u_y x y = y - x / (y - x) * (y - x) := by rw [u_y, if_neg hx, if_pos hc]
              have e4 : u_s x y l = (if l % 3 = 0 then 2 else 0) := by rw [u_s, if_neg hx, if_pos hc]
              have kb := u_kb hok h27
              have lb := Int64.toInt_lt l
              rw [u_at_e h27, e1] at ha
              rw [e1] at kb
              have hl0 : 0 ≤ l.toInt := hl
              have hlk : l.toInt < (3 * (x / (y - x))).toInt := (by have f := h156; first | (rw [l64_lt] at f; exact f) | (have g := Classical.not_not.mp f; rw [l64_lt] at g; exact g))
              have es : (l - 3 * (x / (y - x))).toInt = l.toInt - (3 * (x / (y - x))).toInt := l64_sub (by omega) (by omega)
              rw [if_pos ⟨by rw [l64_le, l64_0]; exact hl0, by rw [l64_lt]; exact hlk⟩, u_at_neg m _ _ _ _ (u_next hok h27).1 (by omega) (by omega), e4] at ha
              first
                | (have f1 : l % 3 = 0 := (by first | exact h167 | exact Classical.not_not.mp h167); rw [if_pos f1] at ha; rw [← ha] at hQ; exact hQ)
                | (have f1 : ¬ l % 3 = 0 := h167; rw [if_neg f1] at ha; rw [← ha] at hQ; exact hQ)
        · skip
          refine pv_iload_14 (pc := 16) dX11_undoing_16 ?_
          refine pv_sipush (pc := 18) (v := 1000) dX11_undoing_18 (by decide) ?_
          refine pv_icmp_ge (pc := 21) (tgt := 244) dX11_undoing_21 (by decide) (fun h21 => absurd h21 (not_not_intro (by rw [i_lt, i_of (by omega), show (1000 : Int32).toInt = 1000 by decide]; omega))) (fun h21 => ?_)
          refine pv_lload_6 (pc := 24) dX11_undoing_24 ?_
          refine pv_lconst (pc := 26) (v := 0) dX11_undoing_26 (by decide) ?_
          refine pv_lcmp_eq (pc := 27) (tgt := 244) dX11_undoing_27 dX11_undoing_28 (by decide) (fun h27 => absurd h27 hq0) (fun h27 => ?_)
          refine pv_lload_8 (pc := 31) dX11_undoing_31 ?_
          refine pv_lload_6 (pc := 33) dX11_undoing_33 ?_
          refine pv_lsub (pc := 35) dX11_undoing_35 ?_
          refine pv_lstore_15 (pc := 36) dX11_undoing_36 (by decide) rfl ?_
          refine pv_lload_6 (pc := 38) dX11_undoing_38 ?_
          refine pv_lconst (pc := 40) (v := 0) dX11_undoing_40 (by decide) ?_
          refine pv_lcmp_ge (pc := 41) (tgt := 91) dX11_undoing_41 dX11_undoing_42 (by decide) (fun h41 => ?_) (fun h41 => absurd h41 hx)
          refine pv_lload_15 (pc := 91) dX11_undoing_91 ?_
          refine pv_lconst (pc := 93) (v := 0) dX11_undoing_93 (by decide) ?_
          refine pv_lcmp_le (pc := 94) (tgt := 182) dX11_undoing_94 dX11_undoing_95 (by decide) (fun h94 => ?_) (fun h94 => ?_)
          · refine pv_lload_6 (pc := 182) dX11_undoing_182 ?_
            refine pv_lstore_19 (pc := 184) dX11_undoing_184 (by decide) rfl ?_
            refine pv_lconst (pc := 186) (v := 1) dX11_undoing_186 (by decide) ?_
            refine pv_lstore_17 (pc := 187) dX11_undoing_187 (by decide) rfl ?_
            refine pv_lload_8 (pc := 189) dX11_undoing_189 ?_
            refine pv_lneg (pc := 191) dX11_undoing_191 ?_
            refine pv_lstore_6 (pc := 192) dX11_undoing_192 (by decide) rfl ?_
            refine pv_lload_19 (pc := 194) dX11_undoing_194 ?_
            refine pv_lstore_8 (pc := 196) dX11_undoing_196 (by decide) rfl ?_
            refine pv_lload_10 (pc := 198) dX11_undoing_198 ?_
            refine pv_lconst (pc := 200) (v := 0) dX11_undoing_200 (by decide) ?_
            refine pv_lcmp_ne (pc := 201) (tgt := 209) dX11_undoing_201 dX11_undoing_202 (by decide) (fun h201 => ?_) (fun h201 => ?_)
            · refine pv_lload_12 (pc := 209) dX11_undoing_209 ?_
              refine pv_lload_17 (pc := 211) dX11_undoing_211 ?_
              refine pv_ladd (pc := 213) dX11_undoing_213 ?_
              refine pv_lstore_12 (pc := 214) dX11_undoing_214 (by decide) rfl ?_
              refine pv_lload_4 (pc := 216) dX11_undoing_216 ?_
              refine pv_ldc2 (pc := 218) dX11_undoing_218 k_X11_224 ?_
              refine pv_lcmp_ne (pc := 221) (tgt := 231) dX11_undoing_221 dX11_undoing_222 (by decide) (fun h221 => ?_) (fun h221 => absurd h221 hpl)
              refine pv_lload_10 (pc := 231) dX11_undoing_231 ?_
              refine pv_lload_17 (pc := 233) dX11_undoing_233 ?_
              refine pv_lsub (pc := 235) dX11_undoing_235 ?_
              refine pv_lstore_10 (pc := 236) dX11_undoing_236 (by decide) rfl ?_
              refine pv_iinc_14 (pc := 238) (v := _ + 1) dX11_undoing_238 rfl (by decide) rfl ?_
              refine pv_goto (pc := 241) (tgt := 16) dX11_undoing_241 (by decide) ?_
              have e1 : u_k x y = 1 := by rw [u_k, if_neg hx, if_neg hc]
              have e2 : u_x x y = -y := by rw [u_x, if_neg hx, if_neg hc]
              have e3 : -y = 0 ∨ x = u_y x y := by rw [u_y, if_neg hx, if_neg hc]; by_cases z0 : -y = 0; exact Or.inl z0; exact Or.inr (by rw [if_neg z0])
              have kb := u_kb hok h27
              rw [e1] at kb
              have hlk : ¬ l.toInt < (1 : Int64).toInt := fun z => h201 (by rw [← Int64.toInt_inj, l64_0]; rw [l64_1] at z; omega)
              have lb := Int64.toInt_lt l
              have es : (l - (1 : Int64)).toInt = l.toInt - ((1 : Int64)).toInt := l64_sub (by omega) (by omega)
              rw [i_inc]
              rw [u_at_e h27, e1, if_neg (fun z => hlk (by have z2 := z.2; rw [l64_lt] at z2; exact z2))] at ha
              have hok1 := (u_next hok h27).1
              have hdn1 := hdn
              rw [e2] at ha hok1 hdn1
              skip
              exact ih (i + 1) _ (u_y x y) _ _ _ _ _ _ _ _ (by omega) hdn1 hok1 (by omega) ha e3
            · refine pv_ldc2 (pc := 205) dX11_undoing_205 k_X11_312 ?_
              refine pv_lret (pc := 208) dX11_undoing_208 rfl ?_
              have e1 : u_k x y = 1 := by rw [u_k, if_neg hx, if_neg hc]
              have e2 : u_x x y = -y := by rw [u_x, if_neg hx, if_neg hc]
              have e3 : -y = 0 ∨ x = u_y x y := by rw [u_y, if_neg hx, if_neg hc]; by_cases z0 : -y = 0; exact Or.inl z0; exact Or.inr (by rw [if_neg z0])
              have e4 : u_s x y l = 2 := by rw [u_s, if_neg hx, if_neg hc]
              have kb := u_kb hok h27
              have lb := Int64.toInt_lt l
              rw [u_at_e h27, e1] at ha
              rw [e1] at kb
              have hl0 : l = 0 := (by first | exact h201 | exact Classical.not_not.mp h201)
              have hlz : l.toInt = 0 := by rw [hl0]; decide
              have es : (l - 1).toInt = l.toInt - 1 := by rw [l64_sub (by rw [l64_1]; omega) (by rw [l64_1]; omega), l64_1]
              rw [if_pos ⟨by rw [l64_le, l64_0]; omega, by rw [l64_lt, l64_1]; omega⟩, u_at_neg m _ _ _ _ (u_next hok h27).1 (by omega) (by omega), e4] at ha
              rw [← ha] at hQ; exact hQ
          · refine pv_lload_8 (pc := 98) dX11_undoing_98 ?_
            refine pv_lload_15 (pc := 100) dX11_undoing_100 ?_
            refine pv_ldiv (pc := 102) dX11_undoing_102 (l64_n0.mpr (by have f := h94; rw [l64_lt, l64_0] at f; omega)) ?_
            refine pv_lconst (pc := 103) (v := 1) dX11_undoing_103 (by decide) ?_
            refine pv_lcmp_le (pc := 104) (tgt := 182) dX11_undoing_104 dX11_undoing_105 (by decide) (fun h104 => ?_) (fun h104 => absurd h104 (fun z => hc ((x_B hok hx h27).mpr ⟨by first | exact h94 | exact Classical.not_not.mp h94, z⟩)))
            refine pv_lload_6 (pc := 182) dX11_undoing_182 ?_
            refine pv_lstore_19 (pc := 184) dX11_undoing_184 (by decide) rfl ?_
            refine pv_lconst (pc := 186) (v := 1) dX11_undoing_186 (by decide) ?_
            refine pv_lstore_17 (pc := 187) dX11_undoing_187 (by decide) rfl ?_
            refine pv_lload_8 (pc := 189) dX11_undoing_189 ?_
            refine pv_lneg (pc := 191) dX11_undoing_191 ?_
            refine pv_lstore_6 (pc := 192) dX11_undoing_192 (by decide) rfl ?_
            refine pv_lload_19 (pc := 194) dX11_undoing_194 ?_
            refine pv_lstore_8 (pc := 196) dX11_undoing_196 (by decide) rfl ?_
            refine pv_lload_10 (pc := 198) dX11_undoing_198 ?_
            refine pv_lconst (pc := 200) (v := 0) dX11_undoing_200 (by decide) ?_
            refine pv_lcmp_ne (pc := 201) (tgt := 209) dX11_undoing_201 dX11_undoing_202 (by decide) (fun h201 => ?_) (fun h201 => ?_)
            · refine pv_lload_12 (pc := 209) dX11_undoing_209 ?_
              refine pv_lload_17 (pc := 211) dX11_undoing_211 ?_
              refine pv_ladd (pc := 213) dX11_undoing_213 ?_
              refine pv_lstore_12 (pc := 214) dX11_undoing_214 (by decide) rfl ?_
              refine pv_lload_4 (pc := 216) dX11_undoing_216 ?_
              refine pv_ldc2 (pc := 218) dX11_undoing_218 k_X11_224 ?_
              refine pv_lcmp_ne (pc := 221) (tgt := 231) dX11_undoing_221 dX11_undoing_222 (by decide) (fun h221 => ?_) (fun h221 => absurd h221 hpl)
              refine pv_lload_10 (pc := 231) dX11_undoing_231 ?_
              refine pv_lload_17 (pc := 233) dX11_undoing_233 ?_
              refine pv_lsub (pc := 235) dX11_undoing_235 ?_
              refine pv_lstore_10 (pc := 236) dX11_undoing_236 (by decide) rfl ?_
              refine pv_iinc_14 (pc := 238) (v := _ + 1) dX11_undoing_238 rfl (by decide) rfl ?_
              refine pv_goto (pc := 241) (tgt := 16) dX11_undoing_241 (by decide) ?_
              have e1 : u_k x y = 1 := by rw [u_k, if_neg hx, if_neg hc]
              have e2 : u_x x y = -y := by rw [u_x, if_neg hx, if_neg hc]
              have e3 : -y = 0 ∨ x = u_y x y := by rw [u_y, if_neg hx, if_neg hc]; by_cases z0 : -y = 0; exact Or.inl z0; exact Or.inr (by rw [if_neg z0])
              have kb := u_kb hok h27
              rw [e1] at kb
              have hlk : ¬ l.toInt < (1 : Int64).toInt := fun z => h201 (by rw [← Int64.toInt_inj, l64_0]; rw [l64_1] at z; omega)
              have lb := Int64.toInt_lt l
              have es : (l - (1 : Int64)).toInt = l.toInt - ((1 : Int64)).toInt := l64_sub (by omega) (by omega)
              rw [i_inc]
              rw [u_at_e h27, e1, if_neg (fun z => hlk (by have z2 := z.2; rw [l64_lt] at z2; exact z2))] at ha
              have hok1 := (u_next hok h27).1
              have hdn1 := hdn
              rw [e2] at ha hok1 hdn1
              skip
              exact ih (i + 1) _ (u_y x y) _ _ _ _ _ _ _ _ (by omega) hdn1 hok1 (by omega) ha e3
            · refine pv_ldc2 (pc := 205) dX11_undoing_205 k_X11_312 ?_
              refine pv_lret (pc := 208) dX11_undoing_208 rfl ?_
              have e1 : u_k x y = 1 := by rw [u_k, if_neg hx, if_neg hc]
              have e2 : u_x x y = -y := by rw [u_x, if_neg hx, if_neg hc]
              have e3 : -y = 0 ∨ x = u_y x y := by rw [u_y, if_neg hx, if_neg hc]; by_cases z0 : -y = 0; exact Or.inl z0; exact Or.inr (by rw [if_neg z0])
              have e4 : u_s x y l = 2 := by rw [u_s, if_neg hx, if_neg hc]
              have kb := u_kb hok h27
              have lb := Int64.toInt_lt l
              rw [u_at_e h27, e1] at ha
              rw [e1] at kb
              have hl0 : l = 0 := (by first | exact h201 | exact Classical.not_not.mp h201)
              have hlz : l.toInt = 0 := by rw [hl0]; decide
              have es : (l - 1).toInt = l.toInt - 1 := by rw [l64_sub (by rw [l64_1]; omega) (by rw [l64_1]; omega), l64_1]
              rw [if_pos ⟨by rw [l64_le, l64_0]; omega, by rw [l64_lt, l64_1]; omega⟩, u_at_neg m _ _ _ _ (u_next hok h27).1 (by omega) (by omega), e4] at ha
              rw [← ha] at hQ; exact hQ

set_option maxRecDepth 100000 in
set_option maxHeartbeats 4000000 in
theorem c_undN {G : pv_G} {d : Nat} {a b : Int64} {t : pv_T} {I : pv_I} {L : pv_L} {Rf : pv_R} (hok : u_ok a b) : pv_Mt G mX11_undoing d 0 0 [.long a, .long b, .long (-1)] t I L Rf (pv_is (some (.long (u_n a b))) t I L Rf) := by
  refine pv_mt mgX11_undoing.2.2.2.2.2 [.long a, .retAddr 0, .long b, .retAddr 0, .long (-1), .retAddr 0, .retAddr 0, .retAddr 0, .retAddr 0, .retAddr 0, .retAddr 0, .retAddr 0, .retAddr 0, .retAddr 0, .retAddr 0, .retAddr 0, .retAddr 0, .retAddr 0, .retAddr 0, .retAddr 0, .retAddr 0] rfl (Nat.le_of_ble_eq_true rfl) ?_
  refine pv_lload_0 (pc := 0) dX11_undoing_0 ?_
  refine pv_lstore_6 (pc := 1) dX11_undoing_1 (by decide) rfl ?_
  refine pv_lload_2 (pc := 3) dX11_undoing_3 ?_
  refine pv_lstore_8 (pc := 4) dX11_undoing_4 (by decide) rfl ?_
  refine pv_lload_4 (pc := 6) dX11_undoing_6 ?_
  refine pv_lstore_10 (pc := 8) dX11_undoing_8 (by decide) rfl ?_
  refine pv_lconst (pc := 10) (v := 0) dX11_undoing_10 (by decide) ?_
  refine pv_lstore_12 (pc := 11) dX11_undoing_11 (by decide) rfl ?_
  refine pv_iconst (pc := 13) (v := 0) dX11_undoing_13 (by decide) ?_
  refine pv_istore_14 (pc := 14) dX11_undoing_14 (by decide) rfl ?_
  exact l_uc ⟨rfl, rfl, rfl, rfl, rfl⟩ 130 0 a b b 0 _ _ _ _ _ (by decide) (u_done_1 hok) hok (by rw [u_n_130 hok, Int64.zero_add]) (Or.inr rfl)

set_option maxRecDepth 100000 in
set_option maxHeartbeats 4000000 in
theorem c_undA {G : pv_G} {d : Nat} {a b l : Int64} {t : pv_T} {I : pv_I} {L : pv_L} {Rf : pv_R} (hok : u_ok a b) (hl : 0 ≤ l.toInt) : pv_Mt G mX11_undoing d 0 0 [.long a, .long b, .long l] t I L Rf (pv_is (some (.long (u_i a b l).toInt64)) t I L Rf) := by
  refine pv_mt mgX11_undoing.2.2.2.2.2 [.long a, .retAddr 0, .long b, .retAddr 0, .long l, .retAddr 0, .retAddr 0, .retAddr 0, .retAddr 0, .retAddr 0, .retAddr 0, .retAddr 0, .retAddr 0, .retAddr 0, .retAddr 0, .retAddr 0, .retAddr 0, .retAddr 0, .retAddr 0, .retAddr 0, .retAddr 0] rfl (Nat.le_of_ble_eq_true rfl) ?_
  refine pv_lload_0 (pc := 0) dX11_undoing_0 ?_
  refine pv_lstore_6 (pc := 1) dX11_undoing_1 (by decide) rfl ?_
  refine pv_lload_2 (pc := 3) dX11_undoing_3 ?_
  refine pv_lstore_8 (pc := 4) dX11_undoing_4 (by decide) rfl ?_
  refine pv_lload_4 (pc := 6) dX11_undoing_6 ?_
  refine pv_lstore_10 (pc := 8) dX11_undoing_8 (by decide) rfl ?_
  refine pv_lconst (pc := 10) (v := 0) dX11_undoing_10 (by decide) ?_
  refine pv_lstore_12 (pc := 11) dX11_undoing_11 (by decide) rfl ?_
  refine pv_iconst (pc := 13) (v := 0) dX11_undoing_13 (by decide) ?_
  refine pv_istore_14 (pc := 14) dX11_undoing_14 (by decide) rfl ?_
  exact l_ua (fun z => by rw [z] at hl; exact absurd hl (by decide)) ⟨rfl, rfl, rfl, rfl, rfl⟩ 130 0 a b b 0 l _ _ _ _ _ (by decide) (u_done_1 hok) hok hl (u_i_130 hok).symm (Or.inr rfl)

set_option maxRecDepth 100000 in
set_option maxHeartbeats 4000000 in
theorem c_X11_undo {G : pv_G} {d : Nat} {J : pv_I} {K : pv_L}  {t : pv_T} {I : pv_I} {L : pv_L} {Rf : pv_R} (hW : WF J K) (hX : RX J K t I L Rf)  (hd : 60 ≤ d) : pv_Mt G mX11_undo d 0 0 [.ref 16] t I L Rf (qX (S_undo J K) I L) := by
  refine pv_mt mgX11_undo.2.2.2.2.2 [.ref 16] rfl (Nat.le_of_ble_eq_true rfl) ?_
  have hT := hX.1
  have hR := hX.2.1
  obtain ⟨-, -, ⟨xp, xq, xn, xst, xsp, xsd, xc⟩, xf, xs, xb, xi⟩ := id hX
  refine pv_aload_0 (pc := 0) dX11_undo_0 ?_
  refine pv_getR (pc := 1) dX11_undo_1 fg_X11_31_11 rfl (by decide) (sx_16 hT) (rx_16_4 hR) ?_
  refine pv_getL (pc := 4) dX11_undo_4 fg_X11_186_4 (by decide) (sx_21 hT) ?_
  refine pv_aload_0 (pc := 7) dX11_undo_7 ?_
  refine pv_getR (pc := 8) dX11_undo_8 fg_X11_31_11 rfl (by decide) (sx_16 hT) (rx_16_4 hR) ?_
  refine pv_getL (pc := 11) dX11_undo_11 fg_X11_190_4 (by decide) (sx_21 hT) ?_
  refine pv_ldc2 (pc := 14) dX11_undo_14 k_X11_224 ?_
  refine pv_callS1 (pc := 17) dX11_undo_17 mgX11_undoing ls_X11_226 (by omega) (c_undN (by rw [xp, xq]; exact u_ok_of hW.2.2.1)) rfl rfl (by decide) ?_
  refine pv_lret (pc := 20) dX11_undo_20 rfl ?_
  refine qX.same hX ?_; unfold S_undo; rw [xp, xq]

theorem u_i_c {x y l : Int64} (hok : u_ok x y) (hl : 0 ≤ l.toInt) : (u_i x y l = -1 ↔ ¬ l < u_n x y) ∧ (u_i x y l = 0 ∨ u_i x y l = 2 ∨ u_i x y l = -1) := by
  rw [u_i_130 hok, u_n_130 hok]
  refine ⟨?_, ?_⟩
  · rw [u_at_in 130 x y l (by decide) hok hl, l64_lt]
  · have gen : ∀ (m : Nat) (x y l : Int64) (w : Int32), (w = 0 ∨ w = 2 ∨ w = -1) → (u_at m x y l w = 0 ∨ u_at m x y l w = 2 ∨ u_at m x y l w = -1) := by
      intro m
      induction m with
      | zero => intro x y l w h; exact h
      | succ m ih =>
        intro x y l w h
        rw [u_at]
        split
        · exact h
        · refine ih _ _ _ _ ?_
          split
          · rcases u_s_c x y l with g | g
            · exact Or.inl g
            · exact Or.inr (Or.inl g)
          · exact h
    exact gen 130 x y l (-1) (Or.inr (Or.inr rfl))
theorem x_m1 (x : Int32) : (x.toInt64 = -1) ↔ x = -1 := by
  rw [← Int64.toInt_inj, ← Int32.toInt_inj, Int32.toInt_toInt64]; exact Iff.rfl
theorem x_m0 (x : Int32) : (x.toInt64 = 0) ↔ x = 0 := by
  rw [← Int64.toInt_inj, ← Int32.toInt_inj, Int32.toInt_toInt64]; exact Iff.rfl
set_option maxRecDepth 100000 in
set_option maxHeartbeats 4000000 in
theorem c_X11_undoes {G : pv_G} {d : Nat} {J : pv_I} {K : pv_L} {i : Int64} {t : pv_T} {I : pv_I} {L : pv_L} {Rf : pv_R} (hW : WF J K) (hX : RX J K t I L Rf)  (hd : 60 ≤ d) : pv_Mt G mX11_undoes d 0 0 [.ref 16, .long i] t I L Rf (qX (S_undoes J K i) I L) := by
  refine pv_mt mgX11_undoes.2.2.2.2.2 [.ref 16, .long i, .retAddr 0, .retAddr 0, .retAddr 0] rfl (Nat.le_of_ble_eq_true rfl) ?_
  have hT := hX.1
  have hR := hX.2.1
  obtain ⟨-, -, ⟨xp, xq, xn, xst, xsp, xsd, xc⟩, xf, xs, xb, xi⟩ := id hX
  refine pv_lload_1 (pc := 0) dX11_undoes_0 ?_
  refine pv_lconst (pc := 1) (v := 0) dX11_undoes_1 (by decide) ?_
  refine pv_lcmp_ge (pc := 2) (tgt := 12) dX11_undoes_2 dX11_undoes_3 (by decide) (fun h2 => ?_) (fun h2 => ?_)
  · refine pv_aload_0 (pc := 12) dX11_undoes_12 ?_
    refine pv_getR (pc := 13) dX11_undoes_13 fg_X11_31_11 rfl (by decide) (sx_16 hT) (rx_16_4 hR) ?_
    refine pv_getL (pc := 16) dX11_undoes_16 fg_X11_186_4 (by decide) (sx_21 hT) ?_
    refine pv_aload_0 (pc := 19) dX11_undoes_19 ?_
    refine pv_getR (pc := 20) dX11_undoes_20 fg_X11_31_11 rfl (by decide) (sx_16 hT) (rx_16_4 hR) ?_
    refine pv_getL (pc := 23) dX11_undoes_23 fg_X11_190_4 (by decide) (sx_21 hT) ?_
    refine pv_lload_1 (pc := 26) dX11_undoes_26 ?_
    refine pv_callS1 (pc := 27) dX11_undoes_27 mgX11_undoing ls_X11_226 (by omega) (c_undA (by rw [xp, xq]; exact u_ok_of hW.2.2.1) (by have f := h2; rw [l64_lt, l64_0] at f; omega)) rfl rfl (by decide) ?_
    refine pv_lstore_3 (pc := 30) dX11_undoes_30 (by decide) rfl ?_
    refine pv_lload_3 (pc := 31) dX11_undoes_31 ?_
    refine pv_ldc2 (pc := 32) dX11_undoes_32 k_X11_224 ?_
    refine pv_lcmp_ne (pc := 35) (tgt := 47) dX11_undoes_35 dX11_undoes_36 (by decide) (fun h35 => ?_) (fun h35 => ?_)
    · refine pv_lload_3 (pc := 47) dX11_undoes_47 ?_
      refine pv_l2i (pc := 48) dX11_undoes_48 ?_
      refine pv_iret (pc := 49) dX11_undoes_49 rfl rfl ?_
      first
        | (have f1 : i < 0 := (by first | exact h2 | exact Classical.not_not.mp h2)
           have f2 := h35
           first
             | (exact absurd rfl f2)
             | (refine qX.ref hX k_lt5b ?_; unfold S_undoes; rw [if_pos (Or.inl f1)]; done))
        | (have f1 : ¬ i < 0 := h2
           have hi0 : 0 ≤ i.toInt := (by rw [l64_lt, l64_0] at f1; omega)
           have hc := u_i_c (u_ok_of hW.2.2.1) hi0
           have f2 := h35
           rw [xp, xq, x_m1] at f2
           first
             | (refine qX.ref hX k_lt5b ?_
                unfold S_undoes
                rw [if_pos (Or.inr (hc.1.mp (by first | exact f2 | exact Classical.not_not.mp f2)))]; done)
             | (refine qX.same hX ?_
                unfold S_undoes
                rw [if_neg (fun r => r.elim f1 (fun g => f2 (hc.1.mpr g))), xp, xq]
                rcases hc.2 with g | g | g <;> rw [g] <;> rfl))
    · refine pv_aload_0 (pc := 39) dX11_undoes_39 ?_
      refine pv_iconst (pc := 40) (v := 5) dX11_undoes_40 (by decide) ?_
      refine pv_callV1 (pc := 41) dX11_undoes_41 mgX11_refuse lv_X11_70_11 (by decide) (sx_16 hT) (by omega) (c_X11_refuse (k := 5) hT hR (by decide) (by unfold vp_in; decide)) rfl rfl (by decide) ?_
      refine pv_goto (pc := 44) (tgt := 49) dX11_undoes_44 (by decide) ?_
      refine pv_iret (pc := 49) dX11_undoes_49 rfl rfl ?_
      first
        | (have f1 : i < 0 := (by first | exact h2 | exact Classical.not_not.mp h2)
           have f2 := h35
           first
             | (exact absurd rfl f2)
             | (refine qX.ref hX k_lt5b ?_; unfold S_undoes; rw [if_pos (Or.inl f1)]; done))
        | (have f1 : ¬ i < 0 := h2
           have hi0 : 0 ≤ i.toInt := (by rw [l64_lt, l64_0] at f1; omega)
           have hc := u_i_c (u_ok_of hW.2.2.1) hi0
           have f2 := h35
           rw [xp, xq, x_m1] at f2
           first
             | (refine qX.ref hX k_lt5b ?_
                unfold S_undoes
                rw [if_pos (Or.inr (hc.1.mp (by first | exact f2 | exact Classical.not_not.mp f2)))]; done)
             | (refine qX.same hX ?_
                unfold S_undoes
                rw [if_neg (fun r => r.elim f1 (fun g => f2 (hc.1.mpr g))), xp, xq]
                rcases hc.2 with g | g | g <;> rw [g] <;> rfl))
  · refine pv_ldc2 (pc := 6) dX11_undoes_6 k_X11_224 ?_
    refine pv_goto (pc := 9) (tgt := 30) dX11_undoes_9 (by decide) ?_
    refine pv_lstore_3 (pc := 30) dX11_undoes_30 (by decide) rfl ?_
    refine pv_lload_3 (pc := 31) dX11_undoes_31 ?_
    refine pv_ldc2 (pc := 32) dX11_undoes_32 k_X11_224 ?_
    refine pv_lcmp_ne (pc := 35) (tgt := 47) dX11_undoes_35 dX11_undoes_36 (by decide) (fun h35 => ?_) (fun h35 => ?_)
    · refine pv_lload_3 (pc := 47) dX11_undoes_47 ?_
      refine pv_l2i (pc := 48) dX11_undoes_48 ?_
      refine pv_iret (pc := 49) dX11_undoes_49 rfl rfl ?_
      first
        | (have f1 : i < 0 := (by first | exact h2 | exact Classical.not_not.mp h2)
           have f2 := h35
           first
             | (exact absurd rfl f2)
             | (refine qX.ref hX k_lt5b ?_; unfold S_undoes; rw [if_pos (Or.inl f1)]; done))
        | (have f1 : ¬ i < 0 := h2
           have hi0 : 0 ≤ i.toInt := (by rw [l64_lt, l64_0] at f1; omega)
           have hc := u_i_c (u_ok_of hW.2.2.1) hi0
           have f2 := h35
           rw [xp, xq, x_m1] at f2
           first
             | (refine qX.ref hX k_lt5b ?_
                unfold S_undoes
                rw [if_pos (Or.inr (hc.1.mp (by first | exact f2 | exact Classical.not_not.mp f2)))]; done)
             | (refine qX.same hX ?_
                unfold S_undoes
                rw [if_neg (fun r => r.elim f1 (fun g => f2 (hc.1.mpr g))), xp, xq]
                rcases hc.2 with g | g | g <;> rw [g] <;> rfl))
    · refine pv_aload_0 (pc := 39) dX11_undoes_39 ?_
      refine pv_iconst (pc := 40) (v := 5) dX11_undoes_40 (by decide) ?_
      refine pv_callV1 (pc := 41) dX11_undoes_41 mgX11_refuse lv_X11_70_11 (by decide) (sx_16 hT) (by omega) (c_X11_refuse (k := 5) hT hR (by decide) (by unfold vp_in; decide)) rfl rfl (by decide) ?_
      refine pv_goto (pc := 44) (tgt := 49) dX11_undoes_44 (by decide) ?_
      refine pv_iret (pc := 49) dX11_undoes_49 rfl rfl ?_
      first
        | (have f1 : i < 0 := (by first | exact h2 | exact Classical.not_not.mp h2)
           have f2 := h35
           first
             | (exact absurd rfl f2)
             | (refine qX.ref hX k_lt5b ?_; unfold S_undoes; rw [if_pos (Or.inl f1)]; done))
        | (have f1 : ¬ i < 0 := h2
           have hi0 : 0 ≤ i.toInt := (by rw [l64_lt, l64_0] at f1; omega)
           have hc := u_i_c (u_ok_of hW.2.2.1) hi0
           have f2 := h35
           rw [xp, xq, x_m1] at f2
           first
             | (refine qX.ref hX k_lt5b ?_
                unfold S_undoes
                rw [if_pos (Or.inr (hc.1.mp (by first | exact f2 | exact Classical.not_not.mp f2)))]; done)
             | (refine qX.same hX ?_
                unfold S_undoes
                rw [if_neg (fun r => r.elim f1 (fun g => f2 (hc.1.mpr g))), xp, xq]
                rcases hc.2 with g | g | g <;> rw [g] <;> rfl))

theorem x_mi {a b i : Int64} (hok : u_ok a b) (h1 : ¬ i < 0) (h2 : i < u_n a b) : 0 ≤ (u_n a b - 1 - i).toInt := by
  have cb := u_cntb 130 a b (by decide) hok
  rw [← u_n_130 hok] at cb
  rw [l64_lt, l64_0] at h1
  rw [l64_lt] at h2
  have e1 : (u_n a b - 1).toInt = (u_n a b).toInt - 1 := by rw [l64_sub (by rw [l64_1]; omega) (by rw [l64_1]; omega), l64_1]
  rw [l64_sub (by rw [e1]; omega) (by rw [e1]; omega), e1]; omega
set_option maxRecDepth 100000 in
set_option maxHeartbeats 4000000 in
theorem c_X11_made {G : pv_G} {d : Nat} {J : pv_I} {K : pv_L} {a b i : Int64} {t : pv_T} {I : pv_I} {L : pv_L} {Rf : pv_R} (hW : WF J K) (hX : RX J K t I L Rf)  (hd : 60 ≤ d) : pv_Mt G mX11_made d 0 0 [.ref 16, .long a, .long b, .long i] t I L Rf (qX (S_made J K a b i) I L) := by
  refine pv_mt mgX11_made.2.2.2.2.2 [.ref 16, .long a, .retAddr 0, .long b, .retAddr 0, .long i, .retAddr 0, .retAddr 0, .retAddr 0] rfl (Nat.le_of_ble_eq_true rfl) ?_
  have hT := hX.1
  have hR := hX.2.1
  obtain ⟨-, -, ⟨xp, xq, xn, xst, xsp, xsd, xc⟩, xf, xs, xb, xi⟩ := id hX
  refine pv_lload_1 (pc := 0) dX11_made_0 ?_
  refine pv_lload_3 (pc := 1) dX11_made_1 ?_
  refine pv_callS1 (pc := 2) dX11_made_2 mgX11_isNumber ls_X11_161 (by omega) (c_X11_isNumber hT (by omega)) rfl rfl (by decide) ?_
  refine pv_if_ne (pc := 5) (tgt := 15) dX11_made_5 (by decide) (fun h5 => ?_) (fun h5 => ?_)
  · refine pv_lload_1 (pc := 15) dX11_made_15 ?_
    refine pv_lload_3 (pc := 16) dX11_made_16 ?_
    refine pv_ldc2 (pc := 17) dX11_made_17 k_X11_224 ?_
    refine pv_callS1 (pc := 20) dX11_made_20 mgX11_undoing ls_X11_226 (by omega) (c_undN (u_ok_of ((s_num_iff _ _).mp ((pv_b_n0 _).mp h5)))) rfl rfl (by decide) ?_
    refine pv_lstore_7 (pc := 23) dX11_made_23 (by decide) rfl ?_
    refine pv_lload_5 (pc := 25) dX11_made_25 ?_
    refine pv_lconst (pc := 27) (v := 0) dX11_made_27 (by decide) ?_
    refine pv_lcmp_lt (pc := 28) (tgt := 40) dX11_made_28 dX11_made_29 (by decide) (fun h28 => ?_) (fun h28 => ?_)
    · refine pv_aload_0 (pc := 40) dX11_made_40 ?_
      refine pv_iconst (pc := 41) (v := 5) dX11_made_41 (by decide) ?_
      refine pv_callV1 (pc := 42) dX11_made_42 mgX11_refuse lv_X11_70_11 (by decide) (sx_16 hT) (by omega) (c_X11_refuse (k := 5) hT hR (by decide) (by unfold vp_in; decide)) rfl rfl (by decide) ?_
      refine pv_iret (pc := 45) dX11_made_45 rfl rfl ?_
      have hN : s_num a b = true := (pv_b_n0 _).mp h5
      first
        | (have f1 := h28; refine qX.ref hX k_lt5b ?_; unfold S_made; rw [if_pos hN, if_pos (Or.inl f1)]; done)
        | (have f1 := h36; refine qX.ref hX k_lt5b ?_; unfold S_made; rw [if_pos hN, if_pos (Or.inr f1)]; done)
    · refine pv_lload_5 (pc := 32) dX11_made_32 ?_
      refine pv_lload_7 (pc := 34) dX11_made_34 ?_
      refine pv_lcmp_lt (pc := 36) (tgt := 46) dX11_made_36 dX11_made_37 (by decide) (fun h36 => ?_) (fun h36 => ?_)
      · refine pv_lload_1 (pc := 46) dX11_made_46 ?_
        refine pv_lload_3 (pc := 47) dX11_made_47 ?_
        refine pv_lload_7 (pc := 48) dX11_made_48 ?_
        refine pv_lconst (pc := 50) (v := 1) dX11_made_50 (by decide) ?_
        refine pv_lsub (pc := 51) dX11_made_51 ?_
        refine pv_lload_5 (pc := 52) dX11_made_52 ?_
        refine pv_lsub (pc := 54) dX11_made_54 ?_
        refine pv_callS1 (pc := 55) dX11_made_55 mgX11_undoing ls_X11_226 (by omega) (c_undA (u_ok_of ((s_num_iff _ _).mp ((pv_b_n0 _).mp h5))) (x_mi (u_ok_of ((s_num_iff _ _).mp ((pv_b_n0 _).mp h5))) h28 (by first | exact h36 | exact Classical.not_not.mp h36))) rfl rfl (by decide) ?_
        refine pv_lconst (pc := 58) (v := 0) dX11_made_58 (by decide) ?_
        refine pv_lcmp_ne (pc := 59) (tgt := 67) dX11_made_59 dX11_made_60 (by decide) (fun h59 => ?_) (fun h59 => ?_)
        · refine pv_iconst (pc := 67) (v := 2) dX11_made_67 (by decide) ?_
          refine pv_iret (pc := 68) dX11_made_68 rfl rfl ?_
          have hN : s_num a b = true := (pv_b_n0 _).mp h5
          have f2 : i < u_n a b := (by first | exact h36 | exact Classical.not_not.mp h36)
          have f3 := h59
          rw [x_m0] at f3
          refine qX.same hX ?_
          unfold S_made
          rw [if_pos hN, if_neg (fun r => r.elim h28 (fun g => g f2))]
          first
            | (rw [if_pos (by first | exact f3 | exact Classical.not_not.mp f3)]; done)
            | (rw [if_neg f3]; done)
        · refine pv_iconst (pc := 63) (v := 1) dX11_made_63 (by decide) ?_
          refine pv_goto (pc := 64) (tgt := 68) dX11_made_64 (by decide) ?_
          refine pv_iret (pc := 68) dX11_made_68 rfl rfl ?_
          have hN : s_num a b = true := (pv_b_n0 _).mp h5
          have f2 : i < u_n a b := (by first | exact h36 | exact Classical.not_not.mp h36)
          have f3 := h59
          rw [x_m0] at f3
          refine qX.same hX ?_
          unfold S_made
          rw [if_pos hN, if_neg (fun r => r.elim h28 (fun g => g f2))]
          first
            | (rw [if_pos (by first | exact f3 | exact Classical.not_not.mp f3)]; done)
            | (rw [if_neg f3]; done)
      · refine pv_aload_0 (pc := 40) dX11_made_40 ?_
        refine pv_iconst (pc := 41) (v := 5) dX11_made_41 (by decide) ?_
        refine pv_callV1 (pc := 42) dX11_made_42 mgX11_refuse lv_X11_70_11 (by decide) (sx_16 hT) (by omega) (c_X11_refuse (k := 5) hT hR (by decide) (by unfold vp_in; decide)) rfl rfl (by decide) ?_
        refine pv_iret (pc := 45) dX11_made_45 rfl rfl ?_
        have hN : s_num a b = true := (pv_b_n0 _).mp h5
        first
          | (have f1 := h28; refine qX.ref hX k_lt5b ?_; unfold S_made; rw [if_pos hN, if_pos (Or.inl f1)]; done)
          | (have f1 := h36; refine qX.ref hX k_lt5b ?_; unfold S_made; rw [if_pos hN, if_pos (Or.inr f1)]; done)
  · refine pv_aload_0 (pc := 8) dX11_made_8 ?_
    refine pv_bipush (pc := 9) (v := 6) dX11_made_9 (by decide) ?_
    refine pv_callV1 (pc := 11) dX11_made_11 mgX11_refuse lv_X11_70_11 (by decide) (sx_16 hT) (by omega) (c_X11_refuse (k := 6) hT hR (by decide) (by unfold vp_in; decide)) rfl rfl (by decide) ?_
    refine pv_iret (pc := 14) dX11_made_14 rfl rfl ?_
    refine qX.ref hX k_l6 ?_; unfold S_made; rw [if_neg (by rw [(pv_b_0 _).mp h5]; decide)]

