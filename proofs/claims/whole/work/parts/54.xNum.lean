/-! the class: numbers; hall and shelves changed -/
theorem RX.hall {J J1 : pv_I} {K K1 : pv_L} {t : pv_T} {I I1 : pv_I} {L L1 : pv_L} {Rf : pv_R} (h : RX J K t I L Rf) (hI : ∀ a j, a ≠ 21 → a ≠ 22 → I1 a j = I a j) (hL : ∀ a j, a ≠ 21 → L1 a j = L a j) (hJ : ∀ a j, a ≠ 4 → ¬ (a = 0 ∧ (j = 1 ∨ j = 2 ∨ j = 3)) → J1 a j = J a j) (hK : ∀ a j, ¬ (a = 0 ∧ j < 2) → K1 a j = K a j) (hx : XHw 21 (J1 0 0) (J1 0 1) (J1 0 2) (J1 0 3) (K1 0 0) (K1 0 1) (J1 4) I1 L1) : RX J1 K1 t I1 L1 Rf := by
  obtain ⟨h1, h2, h3, h4, h5, h6, h7⟩ := h
  have j0 : J1 0 0 = J 0 0 := hJ 0 0 (by decide) (by omega)
  refine ⟨h1, h2, hx, fun i hi => ?_, fun s hs => ?_, ⟨fun k hk => ?_, ?_, ?_, ?_, fun i g1 g2 => ?_⟩, fun q => ?_⟩
  · rw [hJ 1 i (by decide) (by omega), hJ 2 i (by decide) (by omega), hJ 3 i (by decide) (by omega)]
    exact h4.cg (fun a j ha => hI a j (by omega) (by omega)) i (by rw [← j0]; exact hi)
  · have g := (h5 s hs).cg (fun j _ => hI _ j (by omega) (by omega)) (fun j => hL _ j (by omega))
    unfold XS at g ⊢
    rw [hJ 6 s (by decide) (by omega), hJ 7 s (by decide) (by omega), hJ 8 s (by decide) (by omega), hJ 9 s (by decide) (by omega)]
    refine ⟨g.1, fun q => ?_, g.2.2⟩
    obtain ⟨g1, g2, g3, g4⟩ := g.2.1 q
    exact ⟨g1, g2, g3, fun j hj => by rw [hK _ j (by omega)]; exact g4 j hj⟩
  · rw [hI 19 k (by decide) (by decide), hJ 10 k (by decide) (by omega)]; exact h6.1 k hk
  · rw [hI 16 12 (by decide) (by decide), hJ 0 4 (by decide) (by omega)]; exact h6.2.1
  · rw [hI 16 11 (by decide) (by decide), hJ 0 6 (by decide) (by omega)]; exact h6.2.2.1
  · rw [hI 20 0 (by decide) (by decide), hJ 0 5 (by decide) (by omega)]; exact h6.2.2.2.1
  · rw [hJ 0 5 (by decide) (by omega)] at g2
    rw [hI 20 _ (by decide) (by decide), hJ 11 i (by decide) (by omega)]; exact h6.2.2.2.2 i g1 g2
  · rw [hJ 0 6 (by decide) (by omega)] at q
    have g := (h7 q).cg (fun j => hI 23 j (by decide) (by decide)) (fun j => hI 24 j (by decide) (by decide)) (fun j => hL 23 j (by decide))
    rw [hJ 0 7 (by decide) (by omega), hJ 0 8 (by decide) (by omega), hJ 0 9 (by decide) (by omega), hJ 0 10 (by decide) (by omega), hK 0 2 (by omega), hK 0 3 (by omega)]
    have e5 : J1 5 = J 5 := funext fun j => hJ 5 j (by decide) (by omega)
    rw [e5]; exact g
theorem RX.shelf {J J1 : pv_I} {K K1 : pv_L} {t : pv_T} {I I1 : pv_I} {L L1 : pv_L} {Rf : pv_R} (h : RX J K t I L Rf) {s : Nat} (hs8 : s < 8) (hI : ∀ a j, a ≠ 45 + 2 * s → I1 a j = I a j) (hL : ∀ a j, a ≠ 46 + 2 * s → L1 a j = L a j) (hJ : ∀ a j, ¬ ((a = 6 ∨ a = 7 ∨ a = 8 ∨ a = 9) ∧ j = s) → J1 a j = J a j) (hK : ∀ a j, a ≠ 1 + s → K1 a j = K a j) (hx : XS J1 K1 I1 L1 s) : RX J1 K1 t I1 L1 Rf := by
  obtain ⟨h1, h2, h3, h4, h5, h6, h7⟩ := h
  have r : ∀ a, a ≠ 6 → a ≠ 7 → a ≠ 8 → a ≠ 9 → J1 a = J a := fun a g1 g2 g3 g4 => funext fun j => hJ a j (by omega)
  have r0 := r 0 (by decide) (by decide) (by decide) (by decide)
  refine ⟨h1, h2, ?_, fun i hi => ?_, fun x hx8 => ?_, ?_, fun q => ?_⟩
  · rw [r0, r 4 (by decide) (by decide) (by decide) (by decide), hK 0 0 (by omega), hK 0 1 (by omega)]
    exact h3.cg (fun j => hI 21 j (by omega)) (fun j => hI 22 j (by omega)) (fun j => hL 21 j (by omega))
  · rw [r0] at hi
    rw [r 1 (by decide) (by decide) (by decide) (by decide), r 2 (by decide) (by decide) (by decide) (by decide), r 3 (by decide) (by decide) (by decide) (by decide)]
    exact h4.cg (fun a j ha => hI a j (by omega)) i hi
  · by_cases e : x = s
    · rw [e]; exact hx
    · have g := (h5 x hx8).cg (fun j _ => hI _ j (by omega)) (fun j => hL _ j (by omega))
      unfold XS at g ⊢
      rw [hJ 6 x (by omega), hJ 7 x (by omega), hJ 8 x (by omega), hJ 9 x (by omega)]
      refine ⟨g.1, fun q => ?_, g.2.2⟩
      obtain ⟨g1, g2, g3, g4⟩ := g.2.1 q
      exact ⟨g1, g2, g3, fun j hj => by rw [hK _ j (by omega)]; exact g4 j hj⟩
  · unfold XB
    rw [r0, r 10 (by decide) (by decide) (by decide) (by decide), r 11 (by decide) (by decide) (by decide) (by decide)]
    exact h6.cg (fun j => hI 19 j (by omega)) (fun j => hI 16 j (by omega)) (fun j => hI 20 j (by omega))
  · rw [r0] at q
    rw [r0, r 5 (by decide) (by decide) (by decide) (by decide), hK 0 2 (by omega), hK 0 3 (by omega)]
    exact (h7 q).cg (fun j => hI 23 j (by omega)) (fun j => hI 24 j (by omega)) (fun j => hL 23 j (by omega))
theorem kM.of {I I1 : pv_I} {L L1 : pv_L} (hI : ∀ a j, 61 ≤ a → a < 90 → I1 a j = I a j) (hL : ∀ a j, 61 ≤ a → a < 90 → L1 a j = L a j) : kM I L I1 L1 := fun a h1 h2 => ⟨funext fun j => hI a j h1 h2, funext fun j => hL a j h1 h2⟩
theorem pv_u_o {α : Type} (f : Nat → Nat → α) {a j x y : Nat} {v : α} (h : ¬ (x = a ∧ y = j)) : pv_u f a j v x y = f x y := by rw [pv_u_app, if_neg h]

set_option maxRecDepth 100000 in
set_option maxHeartbeats 4000000 in
theorem l_dv1 {G : pv_G} {d : Nat} {Q : pv_Q} {t : pv_T} {I : pv_I} {L : pv_L} {Rf : pv_R} {a b : Int64} {x y : Int64} {i : Nat} {l9 : Value} (hi : i < 1000) (h0 : ¬ y = 0) (hk : ∀ l9, pv_V G mX11_divisor d 0 0 Q 0 0 9 [.long a, .retAddr 0, .long b, .retAddr 0, .long y, .retAddr 0, .long (x % y), .retAddr 0, .int (Int32.ofNat (i + 1)), l9, .retAddr 0] [] t I L Rf) : pv_V G mX11_divisor d 0 0 Q 0 0 9 [.long a, .retAddr 0, .long b, .retAddr 0, .long x, .retAddr 0, .long y, .retAddr 0, .int (Int32.ofNat i), l9, .retAddr 0] [] t I L Rf := by
  refine pv_iload_8 (pc := 9) dX11_divisor_9 ?_
  refine pv_sipush (pc := 11) (v := 1000) dX11_divisor_11 (by decide) ?_
  refine pv_icmp_ge (pc := 14) (tgt := 45) dX11_divisor_14 (by decide) (fun h14 => absurd h14 (not_not_intro (by rw [i_lt, i_of (by omega), show (1000 : Int32).toInt = 1000 by decide]; omega))) (fun h14 => ?_)
  refine pv_lload_6 (pc := 17) dX11_divisor_17 ?_
  refine pv_lconst (pc := 19) (v := 0) dX11_divisor_19 (by decide) ?_
  refine pv_lcmp_eq (pc := 20) (tgt := 45) dX11_divisor_20 dX11_divisor_21 (by decide) (fun h20 => absurd h20 h0) (fun h20 => ?_)
  refine pv_lload_4 (pc := 24) dX11_divisor_24 ?_
  refine pv_lload_6 (pc := 26) dX11_divisor_26 ?_
  refine pv_lrem (pc := 28) dX11_divisor_28 h0 ?_
  refine pv_lstore_9 (pc := 29) dX11_divisor_29 (by decide) rfl ?_
  refine pv_lload_6 (pc := 31) dX11_divisor_31 ?_
  refine pv_lstore_4 (pc := 33) dX11_divisor_33 (by decide) rfl ?_
  refine pv_lload_9 (pc := 35) dX11_divisor_35 ?_
  refine pv_lstore_6 (pc := 37) dX11_divisor_37 (by decide) rfl ?_
  refine pv_iinc_8 (pc := 39) (v := _ + 1) dX11_divisor_39 rfl (by decide) rfl ?_
  refine pv_goto (pc := 42) (tgt := 9) dX11_divisor_42 (by decide) ?_
  rw [i_inc]
  exact hk _

set_option maxRecDepth 100000 in
set_option maxHeartbeats 4000000 in
theorem l_dv0 {G : pv_G} {d : Nat} {Q : pv_Q} {t : pv_T} {I : pv_I} {L : pv_L} {Rf : pv_R} {a b : Int64} (g : Nat) (hq : Q (some (.long (Int64.ofInt (g : Nat)))) t I L Rf) {x y : Int64} {i : Nat} {l9 : Value} (hi : i < 1000) (hx : 0 ≤ x.toInt) (h0 : y = 0) (hg : Int.gcd x.toInt y.toInt = g) : pv_V G mX11_divisor d 0 0 Q 0 0 9 [.long a, .retAddr 0, .long b, .retAddr 0, .long x, .retAddr 0, .long y, .retAddr 0, .int (Int32.ofNat i), l9, .retAddr 0] [] t I L Rf := by
  refine pv_iload_8 (pc := 9) dX11_divisor_9 ?_
  refine pv_sipush (pc := 11) (v := 1000) dX11_divisor_11 (by decide) ?_
  refine pv_icmp_ge (pc := 14) (tgt := 45) dX11_divisor_14 (by decide) (fun h14 => absurd h14 (not_not_intro (by rw [i_lt, i_of (by omega), show (1000 : Int32).toInt = 1000 by decide]; omega))) (fun h14 => ?_)
  refine pv_lload_6 (pc := 17) dX11_divisor_17 ?_
  refine pv_lconst (pc := 19) (v := 0) dX11_divisor_19 (by decide) ?_
  refine pv_lcmp_eq (pc := 20) (tgt := 45) dX11_divisor_20 dX11_divisor_21 (by decide) (fun h20 => ?_) (fun h20 => absurd h20 (not_not_intro h0))
  refine pv_lload_4 (pc := 45) dX11_divisor_45 ?_
  refine pv_lret (pc := 47) dX11_divisor_47 rfl ?_
  rw [← hg, h0, l64_0, Int.gcd_zero_right, show (x.toInt.natAbs : Int) = x.toInt by omega, Int64.ofInt_toInt] at hq; exact hq

theorem l_dv {G : pv_G} {d : Nat} {Q : pv_Q} {t : pv_T} {I : pv_I} {L : pv_L} {Rf : pv_R} {a b : Int64} (g : Nat) (hq : Q (some (.long (Int64.ofInt (g : Nat)))) t I L Rf) : ∀ (k i : Nat) (x y : Int64) (l9 : Value), 0 ≤ x.toInt → 0 ≤ y.toInt → y.toInt < 2 ^ k → i + 2 * k < 1000 → Int.gcd x.toInt y.toInt = g → pv_V G mX11_divisor d 0 0 Q 0 0 9 [.long a, .retAddr 0, .long b, .retAddr 0, .long x, .retAddr 0, .long y, .retAddr 0, .int (Int32.ofNat i), l9, .retAddr 0] [] t I L Rf := by
  intro k
  induction k with
  | zero =>
    intro i x y l9 hx hy hk hi hg
    exact l_dv0 g hq (by omega) hx (by rw [← Int64.toInt_inj, l64_0]; omega) hg
  | succ k ih =>
    intro i x y l9 hx hy hk hi hg
    by_cases h0 : y = 0
    · exact l_dv0 g hq (by omega) hx h0 hg
    · have hy0 := l64_n0.mp h0
      have hm := l64_mod hx (show 0 < y.toInt by omega)
      have r0 := Int.emod_nonneg x.toInt hy0
      have r1 := Int.emod_lt_of_pos x.toInt (show 0 < y.toInt by omega)
      have hg1 : Int.gcd y.toInt (x % y).toInt = g := by rw [hm, ← hg]; exact i_gcd hx (by omega)
      refine l_dv1 (by omega) h0 (fun l9 => ?_)
      by_cases h1 : x % y = 0
      · exact l_dv0 g hq (by omega) hy h1 hg1
      · have hr0 := l64_n0.mp h1
        have hr1 : 0 ≤ (x % y).toInt := by omega
        have hm2 := l64_mod hy (show 0 < (x % y).toInt by omega)
        have s0 := Int.emod_nonneg y.toInt hr0
        have s1 := Int.emod_lt_of_pos y.toInt (show 0 < (x % y).toInt by omega)
        have s2 : y.toInt % (x % y).toInt + (x % y).toInt ≤ y.toInt := by
          have e := Int.ediv_mul_add_emod y.toInt (x % y).toInt
          have e1 : 1 ≤ y.toInt / (x % y).toInt := (Int.le_ediv_iff_mul_le (by omega)).mpr (by omega)
          have e2 : 1 * (x % y).toInt ≤ y.toInt / (x % y).toInt * (x % y).toInt := Int.mul_le_mul_of_nonneg_right e1 (by omega)
          omega
        rw [Int.pow_succ] at hk
        exact l_dv1 (by omega) h1 (fun l9 => ih (i + 1 + 1) (x % y) (y % (x % y)) l9 hr1 (by omega) (by omega) (by omega) (by rw [hm2, ← hg1]; exact i_gcd hy (by omega)))
set_option maxRecDepth 100000 in
set_option maxHeartbeats 4000000 in
theorem c_X11_divisor {G : pv_G} {d : Nat} {a b : Int64} {t : pv_T} {I : pv_I} {L : pv_L} {Rf : pv_R} (ha : 0 ≤ a.toInt) (hb : 0 ≤ b.toInt) : pv_Mt G mX11_divisor d 0 0 [.long a, .long b] t I L Rf (pv_is (some (.long (s_gcd a b))) t I L Rf) := by
  refine pv_mt mgX11_divisor.2.2.2.2.2 [.long a, .retAddr 0, .long b, .retAddr 0, .retAddr 0, .retAddr 0, .retAddr 0, .retAddr 0, .retAddr 0, .retAddr 0, .retAddr 0] rfl (Nat.le_of_ble_eq_true rfl) ?_
  refine pv_lload_0 (pc := 0) dX11_divisor_0 ?_
  refine pv_lstore_4 (pc := 1) dX11_divisor_1 (by decide) rfl ?_
  refine pv_lload_2 (pc := 3) dX11_divisor_3 ?_
  refine pv_lstore_6 (pc := 4) dX11_divisor_4 (by decide) rfl ?_
  refine pv_iconst (pc := 6) (v := 0) dX11_divisor_6 (by decide) ?_
  refine pv_istore_8 (pc := 7) dX11_divisor_7 (by decide) rfl ?_
  exact l_dv (Int.gcd a.toInt b.toInt) ⟨rfl, rfl, rfl, rfl, rfl⟩ 63 0 a b _ ha hb (Int64.toInt_lt b) (by decide) rfl

theorem s_wide_n {p q m : Int64} (h : s_wide p q m = false) : p ≤ m ∧ -m ≤ p ∧ q ≤ m ∧ -m ≤ q := by
  simp only [s_wide, Bool.or_eq_false_iff, decide_eq_false_iff_not, l64_lt] at h
  simp only [l64_le]
  omega
theorem x_abs0 {p q : Int64} (h : p ≤ 1000000000000 ∧ -1000000000000 ≤ p ∧ q ≤ 1000000000000 ∧ -1000000000000 ≤ q) : 0 ≤ (if 0 < p then p else -p).toInt := by
  obtain ⟨h1, h2, -, -⟩ := h
  simp only [l64_le, (show (1000000000000 : Int64).toInt = 1000000000000 from by decide), (show ((-1000000000000) : Int64).toInt = (-1000000000000) from by decide)] at h1 h2
  split
  · rename_i g; rw [l64_lt, l64_0] at g; omega
  · rename_i g; rw [l64_lt, l64_0] at g; rw [l64_neg (by omega)]; omega
theorem x_absg {p q : Int64} (h : p ≤ 1000000000000 ∧ -1000000000000 ≤ p) : s_gcd (if 0 < p then p else -p) q = s_gcd p q := by
  obtain ⟨h1, h2⟩ := h
  simp only [l64_le, (show (1000000000000 : Int64).toInt = 1000000000000 from by decide), (show ((-1000000000000) : Int64).toInt = (-1000000000000) from by decide)] at h1 h2
  unfold s_gcd
  split
  · rfl
  · rename_i g; rw [l64_neg (by omega), Int.neg_gcd]
set_option maxRecDepth 100000 in
set_option maxHeartbeats 4000000 in
theorem c_X11_isNumber {G : pv_G} {d : Nat} {p q : Int64} {t : pv_T} {I : pv_I} {L : pv_L} {Rf : pv_R} (hT : sh_ok t) (hd : 1 ≤ d) : pv_Mt G mX11_isNumber d 0 0 [.long p, .long q] t I L Rf (pv_is (some (.int (pv_b (s_num p q)))) t I L Rf) := by
  refine pv_mt mgX11_isNumber.2.2.2.2.2 [.long p, .retAddr 0, .long q, .retAddr 0] rfl (Nat.le_of_ble_eq_true rfl) ?_
  refine pv_lload_2 (pc := 0) dX11_isNumber_0 ?_
  refine pv_lconst (pc := 1) (v := 0) dX11_isNumber_1 (by decide) ?_
  refine pv_lcmp_lt (pc := 2) (tgt := 17) dX11_isNumber_2 dX11_isNumber_3 (by decide) (fun h2 => ?_) (fun h2 => ?_)
  · refine pv_iconst (pc := 17) (v := 0) dX11_isNumber_17 (by decide) ?_
    refine pv_iret (pc := 18) dX11_isNumber_18 rfl rfl ?_
    first
      | (have f1 := h2; (refine ⟨congrArg (fun z => some (Value.int (pv_b z))) (Eq.symm (s_num_f (Or.inl f1))), rfl, rfl, rfl, rfl⟩))
      | (have f1 := (pv_b_n0 _).mp h14
         have f2 : q < 0 ∨ 1000000000000 < q ∨ 1000000000000 < p ∨ p < -1000000000000 ∨ ¬ (if q = 0 then p = 1 else s_gcd p q = 1) := (by
           simp only [s_wide, Bool.or_eq_true, decide_eq_true_eq] at f1
           have e : (-(1000000000000 : Int64)) = -1000000000000 := (by decide)
           rw [e] at f1
           rcases f1 with ((f1 | f1) | f1) | f1
           · exact Or.inr (Or.inr (Or.inl f1))
           · exact Or.inr (Or.inr (Or.inr (Or.inl f1)))
           · exact Or.inr (Or.inl f1)
           · exact absurd (show q < 0 by rw [l64_lt] at f1; rw [l64_lt, l64_0]; have e2 : (-1000000000000 : Int64).toInt = -1000000000000 := (by decide); omega) h2)
         (refine ⟨congrArg (fun z => some (Value.int (pv_b z))) (Eq.symm (s_num_f f2)), rfl, rfl, rfl, rfl⟩))
  · refine pv_lload_0 (pc := 6) dX11_isNumber_6 ?_
    refine pv_lload_2 (pc := 7) dX11_isNumber_7 ?_
    refine pv_ldc2 (pc := 8) dX11_isNumber_8 k_X11_348 ?_
    refine pv_callS1 (pc := 11) dX11_isNumber_11 mgX11_isWide ls_X11_350 (by omega) (c_X11_isWide ) rfl rfl (by decide) ?_
    refine pv_if_eq (pc := 14) (tgt := 19) dX11_isNumber_14 (by decide) (fun h14 => ?_) (fun h14 => ?_)
    · refine pv_lload_2 (pc := 19) dX11_isNumber_19 ?_
      refine pv_lconst (pc := 20) (v := 0) dX11_isNumber_20 (by decide) ?_
      refine pv_lcmp_ne (pc := 21) (tgt := 39) dX11_isNumber_21 dX11_isNumber_22 (by decide) (fun h21 => ?_) (fun h21 => ?_)
      · refine pv_lload_0 (pc := 39) dX11_isNumber_39 ?_
        refine pv_labs (pc := 40) dX11_isNumber_40 mal_X11_268 ma_1 ma_0 ma_2 (by omega) (by decide) ?_
        refine pv_lload_2 (pc := 43) dX11_isNumber_43 ?_
        refine pv_callS1 (pc := 44) dX11_isNumber_44 mgX11_divisor ls_X11_274 (by omega) (c_X11_divisor (x_abs0 (s_wide_n ((pv_b_0 _).mp h14))) (by rw [l64_lt, l64_0] at h2; omega)) rfl rfl (by decide) ?_
        refine pv_lconst (pc := 47) (v := 1) dX11_isNumber_47 (by decide) ?_
        refine pv_lcmp_ne (pc := 48) (tgt := 56) dX11_isNumber_48 dX11_isNumber_49 (by decide) (fun h48 => ?_) (fun h48 => ?_)
        · refine pv_iconst (pc := 56) (v := 0) dX11_isNumber_56 (by decide) ?_
          refine pv_iret (pc := 57) dX11_isNumber_57 rfl rfl ?_
          have hwd := s_wide_n ((pv_b_0 _).mp h14)
          have w1 : ¬ 1000000000000 < q := (by have := hwd.2.2.1; rw [l64_le] at this; rw [l64_lt]; omega)
          have w2 : ¬ 1000000000000 < p := (by have := hwd.1; rw [l64_le] at this; rw [l64_lt]; omega)
          have w3 : ¬ p < -1000000000000 := (by have := hwd.2.1; rw [l64_le] at this; rw [l64_lt]; exact (by have e : (-1000000000000 : Int64).toInt = (-(1000000000000 : Int64)).toInt := (by decide); omega))
          have hgg := x_absg (q := q) ⟨hwd.1, hwd.2.1⟩
          first
            | (have f1 := h21; have f2 := h27; (refine ⟨congrArg (fun z => some (Value.int (pv_b z))) (Eq.symm (s_num_t h2 w1 w2 w3 (by rw [if_pos f1]; exact f2))), rfl, rfl, rfl, rfl⟩))
            | (have f1 := h21; have f2 := h27; (refine ⟨congrArg (fun z => some (Value.int (pv_b z))) (Eq.symm (s_num_f (Or.inr (Or.inr (Or.inr (Or.inr (by rw [if_pos f1]; exact f2))))))), rfl, rfl, rfl, rfl⟩))
            | (have f1 := h21; have f2 := h48; rw [hgg] at f2; (refine ⟨congrArg (fun z => some (Value.int (pv_b z))) (Eq.symm (s_num_t h2 w1 w2 w3 (by rw [if_neg f1]; exact f2))), rfl, rfl, rfl, rfl⟩))
            | (have f1 := h21; have f2 := h48; rw [hgg] at f2; (refine ⟨congrArg (fun z => some (Value.int (pv_b z))) (Eq.symm (s_num_f (Or.inr (Or.inr (Or.inr (Or.inr (by rw [if_neg f1]; exact f2))))))), rfl, rfl, rfl, rfl⟩))
        · refine pv_iconst (pc := 52) (v := 1) dX11_isNumber_52 (by decide) ?_
          refine pv_goto (pc := 53) (tgt := 57) dX11_isNumber_53 (by decide) ?_
          refine pv_iret (pc := 57) dX11_isNumber_57 rfl rfl ?_
          have hwd := s_wide_n ((pv_b_0 _).mp h14)
          have w1 : ¬ 1000000000000 < q := (by have := hwd.2.2.1; rw [l64_le] at this; rw [l64_lt]; omega)
          have w2 : ¬ 1000000000000 < p := (by have := hwd.1; rw [l64_le] at this; rw [l64_lt]; omega)
          have w3 : ¬ p < -1000000000000 := (by have := hwd.2.1; rw [l64_le] at this; rw [l64_lt]; exact (by have e : (-1000000000000 : Int64).toInt = (-(1000000000000 : Int64)).toInt := (by decide); omega))
          have hgg := x_absg (q := q) ⟨hwd.1, hwd.2.1⟩
          first
            | (have f1 := h21; have f2 := h27; (refine ⟨congrArg (fun z => some (Value.int (pv_b z))) (Eq.symm (s_num_t h2 w1 w2 w3 (by rw [if_pos f1]; exact f2))), rfl, rfl, rfl, rfl⟩))
            | (have f1 := h21; have f2 := h27; (refine ⟨congrArg (fun z => some (Value.int (pv_b z))) (Eq.symm (s_num_f (Or.inr (Or.inr (Or.inr (Or.inr (by rw [if_pos f1]; exact f2))))))), rfl, rfl, rfl, rfl⟩))
            | (have f1 := h21; have f2 := h48; rw [hgg] at f2; (refine ⟨congrArg (fun z => some (Value.int (pv_b z))) (Eq.symm (s_num_t h2 w1 w2 w3 (by rw [if_neg f1]; exact f2))), rfl, rfl, rfl, rfl⟩))
            | (have f1 := h21; have f2 := h48; rw [hgg] at f2; (refine ⟨congrArg (fun z => some (Value.int (pv_b z))) (Eq.symm (s_num_f (Or.inr (Or.inr (Or.inr (Or.inr (by rw [if_neg f1]; exact f2))))))), rfl, rfl, rfl, rfl⟩))
      · refine pv_lload_0 (pc := 25) dX11_isNumber_25 ?_
        refine pv_lconst (pc := 26) (v := 1) dX11_isNumber_26 (by decide) ?_
        refine pv_lcmp_ne (pc := 27) (tgt := 35) dX11_isNumber_27 dX11_isNumber_28 (by decide) (fun h27 => ?_) (fun h27 => ?_)
        · refine pv_iconst (pc := 35) (v := 0) dX11_isNumber_35 (by decide) ?_
          refine pv_goto (pc := 36) (tgt := 57) dX11_isNumber_36 (by decide) ?_
          refine pv_iret (pc := 57) dX11_isNumber_57 rfl rfl ?_
          have hwd := s_wide_n ((pv_b_0 _).mp h14)
          have w1 : ¬ 1000000000000 < q := (by have := hwd.2.2.1; rw [l64_le] at this; rw [l64_lt]; omega)
          have w2 : ¬ 1000000000000 < p := (by have := hwd.1; rw [l64_le] at this; rw [l64_lt]; omega)
          have w3 : ¬ p < -1000000000000 := (by have := hwd.2.1; rw [l64_le] at this; rw [l64_lt]; exact (by have e : (-1000000000000 : Int64).toInt = (-(1000000000000 : Int64)).toInt := (by decide); omega))
          have hgg := x_absg (q := q) ⟨hwd.1, hwd.2.1⟩
          first
            | (have f1 := h21; have f2 := h27; (refine ⟨congrArg (fun z => some (Value.int (pv_b z))) (Eq.symm (s_num_t h2 w1 w2 w3 (by rw [if_pos f1]; exact f2))), rfl, rfl, rfl, rfl⟩))
            | (have f1 := h21; have f2 := h27; (refine ⟨congrArg (fun z => some (Value.int (pv_b z))) (Eq.symm (s_num_f (Or.inr (Or.inr (Or.inr (Or.inr (by rw [if_pos f1]; exact f2))))))), rfl, rfl, rfl, rfl⟩))
            | (have f1 := h21; have f2 := h48; rw [hgg] at f2; (refine ⟨congrArg (fun z => some (Value.int (pv_b z))) (Eq.symm (s_num_t h2 w1 w2 w3 (by rw [if_neg f1]; exact f2))), rfl, rfl, rfl, rfl⟩))
            | (have f1 := h21; have f2 := h48; rw [hgg] at f2; (refine ⟨congrArg (fun z => some (Value.int (pv_b z))) (Eq.symm (s_num_f (Or.inr (Or.inr (Or.inr (Or.inr (by rw [if_neg f1]; exact f2))))))), rfl, rfl, rfl, rfl⟩))
        · refine pv_iconst (pc := 31) (v := 1) dX11_isNumber_31 (by decide) ?_
          refine pv_goto (pc := 32) (tgt := 57) dX11_isNumber_32 (by decide) ?_
          refine pv_iret (pc := 57) dX11_isNumber_57 rfl rfl ?_
          have hwd := s_wide_n ((pv_b_0 _).mp h14)
          have w1 : ¬ 1000000000000 < q := (by have := hwd.2.2.1; rw [l64_le] at this; rw [l64_lt]; omega)
          have w2 : ¬ 1000000000000 < p := (by have := hwd.1; rw [l64_le] at this; rw [l64_lt]; omega)
          have w3 : ¬ p < -1000000000000 := (by have := hwd.2.1; rw [l64_le] at this; rw [l64_lt]; exact (by have e : (-1000000000000 : Int64).toInt = (-(1000000000000 : Int64)).toInt := (by decide); omega))
          have hgg := x_absg (q := q) ⟨hwd.1, hwd.2.1⟩
          first
            | (have f1 := h21; have f2 := h27; (refine ⟨congrArg (fun z => some (Value.int (pv_b z))) (Eq.symm (s_num_t h2 w1 w2 w3 (by rw [if_pos f1]; exact f2))), rfl, rfl, rfl, rfl⟩))
            | (have f1 := h21; have f2 := h27; (refine ⟨congrArg (fun z => some (Value.int (pv_b z))) (Eq.symm (s_num_f (Or.inr (Or.inr (Or.inr (Or.inr (by rw [if_pos f1]; exact f2))))))), rfl, rfl, rfl, rfl⟩))
            | (have f1 := h21; have f2 := h48; rw [hgg] at f2; (refine ⟨congrArg (fun z => some (Value.int (pv_b z))) (Eq.symm (s_num_t h2 w1 w2 w3 (by rw [if_neg f1]; exact f2))), rfl, rfl, rfl, rfl⟩))
            | (have f1 := h21; have f2 := h48; rw [hgg] at f2; (refine ⟨congrArg (fun z => some (Value.int (pv_b z))) (Eq.symm (s_num_f (Or.inr (Or.inr (Or.inr (Or.inr (by rw [if_neg f1]; exact f2))))))), rfl, rfl, rfl, rfl⟩))
    · refine pv_iconst (pc := 17) (v := 0) dX11_isNumber_17 (by decide) ?_
      refine pv_iret (pc := 18) dX11_isNumber_18 rfl rfl ?_
      first
        | (have f1 := h2; (refine ⟨congrArg (fun z => some (Value.int (pv_b z))) (Eq.symm (s_num_f (Or.inl f1))), rfl, rfl, rfl, rfl⟩))
        | (have f1 := (pv_b_n0 _).mp h14
           have f2 : q < 0 ∨ 1000000000000 < q ∨ 1000000000000 < p ∨ p < -1000000000000 ∨ ¬ (if q = 0 then p = 1 else s_gcd p q = 1) := (by
             simp only [s_wide, Bool.or_eq_true, decide_eq_true_eq] at f1
             have e : (-(1000000000000 : Int64)) = -1000000000000 := (by decide)
             rw [e] at f1
             rcases f1 with ((f1 | f1) | f1) | f1
             · exact Or.inr (Or.inr (Or.inl f1))
             · exact Or.inr (Or.inr (Or.inr (Or.inl f1)))
             · exact Or.inr (Or.inl f1)
             · exact absurd (show q < 0 by rw [l64_lt] at f1; rw [l64_lt, l64_0]; have e2 : (-1000000000000 : Int64).toInt = -1000000000000 := (by decide); omega) h2)
           (refine ⟨congrArg (fun z => some (Value.int (pv_b z))) (Eq.symm (s_num_f f2)), rfl, rfl, rfl, rfl⟩))

