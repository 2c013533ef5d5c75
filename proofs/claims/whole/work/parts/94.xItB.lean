/-! an item: the class's way and the reference's come to the same -/
theorem b_lit_c {c : Nat → Int32} {e : Nat} {x : Int32} {l : List Int32} {r : Nat} (h : r < e ∧ c r = x) : b_lit c e (x :: l) r = b_lit c e l (r + 1) := by rw [b_lit, if_pos h]
theorem b_lit_o {c : Nat → Int32} {e : Nat} {x : Int32} {l : List Int32} {r : Nat} (h : ¬ (r < e ∧ c r = x)) : b_lit c e (x :: l) r = (r, false) := by rw [b_lit, if_neg h]
theorem b_lit_x (c : Nat → Int32) (e : Nat) (x : Int32) : ∀ (l : List Int32) (r : Nat), b_lit c e (l ++ [x]) r = if (b_lit c e l r).2 = true then (if (b_lit c e l r).1 < e ∧ c (b_lit c e l r).1 = x then ((b_lit c e l r).1 + 1, true) else ((b_lit c e l r).1, false)) else b_lit c e l r
  | [], r => by
    show b_lit c e [x] r = _
    rw [b_lit, b_lit]
    show (if r < e ∧ c r = x then b_lit c e [] (r + 1) else (r, false)) = if (b_lit c e [] r).2 = true then _ else _
    rw [b_lit, b_lit, if_pos rfl]
  | y :: l, r => by
    show b_lit c e (y :: (l ++ [x])) r = _
    by_cases h : r < e ∧ c r = y
    · rw [b_lit_c h, b_lit_c h, b_lit_x c e x l (r + 1)]
    · rw [b_lit_o h, b_lit_o h, if_neg (fun q => absurd (show false = true from q) (by decide))]
theorem x_rnB {c : Nat → Int32} {e r : Nat} {low top : Int32} {P : Int32 → Bool} {F : Nat × Int32 → BR} (hP : ∀ x : Int32, 0 ≤ x.toInt → x.toInt < 1000 → (P x = true ↔ low ≤ x ∧ x ≤ top)) : (match x_rn c e r with | none => Except.error (x_rf c e r) | some p => if P p.2 = true then F p else .error (r + 1)) = if r < e ∧ c r = 32 then (match b_num c e (r + 1) low top with | none => .error (r + 1) | some p => F p) else .error r := by
  by_cases hc : r < e ∧ c r = 32
  · rw [if_pos hc]
    have e1 : x_rf c e r = r + 1 := by unfold x_rf; rw [if_pos hc]
    by_cases hD : b_isD c e (r + 1) = true
    · have e2 : x_rn c e r = some (b_dg c e 3 (r + 1) 0) := by unfold x_rn; rw [if_pos hc, if_pos hD]
      have hb := b_dg_b (c := c) (e := e) 3 (r + 1) 0 1 (by decide) (by decide) (by decide)
      have hq := hP _ hb.1 hb.2
      rw [e2]
      unfold b_num
      rw [if_pos hD]
      show (if P (b_dg c e 3 (r + 1) 0).2 = true then _ else _) = _
      by_cases hr : low ≤ (b_dg c e 3 (r + 1) 0).2 ∧ (b_dg c e 3 (r + 1) 0).2 ≤ top
      · rw [if_pos hr, if_pos (hq.mpr hr)]
      · rw [if_neg hr, if_neg (fun z => hr (hq.mp z))]
    · have e2 : x_rn c e r = none := by unfold x_rn; rw [if_pos hc, if_neg hD]
      rw [e2, e1]
      unfold b_num
      rw [if_neg hD]
  · have e1 : x_rf c e r = r := by unfold x_rf; rw [if_neg hc]
    have e2 : x_rn c e r = none := by unfold x_rn; rw [if_neg hc]
    rw [if_neg hc, e2, e1]
theorem x_fg2_b (c : Nat → Int32) (e r : Nat) (k a : Int32) (J : pv_I) (K : pv_L) : x_fg2 c e r k a J K = if r < e ∧ c r = 32 then (match b_num c e (r + 1) 1 9 with | none => .error (r + 1) | some p => .ok (p.1, S_adds J k a p.2, K)) else .error r := by
  unfold x_fg2
  exact x_rnB (P := fun x => decide (1 ≤ x) && decide (x ≤ 9)) (F := fun p => .ok (p.1, S_adds J k a p.2, K)) (fun x _ _ => by simp)
theorem x_fg1_b (c : Nat → Int32) (e r : Nat) (k : Int32) (J : pv_I) (K : pv_L) : x_fg1 c e r k J K = b_fg1 c e r k J K := by
  unfold x_fg1 b_fg1
  refine (x_rnB (c := c) (e := e) (r := r) (low := 0) (top := 9) (P := fun x => decide (0 ≤ x) && decide (x ≤ 9)) (F := fun a => x_fg2 c e a.1 k a.2 J K) (fun x _ _ => by simp)).trans ?_
  split
  · cases b_num c e (r + 1) 0 9 with
    | none => rfl
    | some p => show x_fg2 c e p.1 k p.2 J K = b_fg2 c e p.1 0 k p.2 J K; rw [x_fg2_b]; unfold b_fg2; cases b_num c e (p.1 + 1) 1 9 <;> rfl
  · rfl
theorem x_fig_b (c : Nat → Int32) (e r : Nat) (J : pv_I) (K : pv_L) : x_fig c e r J K = if r < e ∧ c r = 32 then b_fg0 c e (r + 1) J K else .error r := by
  unfold x_fig
  refine (x_rnB (c := c) (e := e) (r := r) (low := 0) (top := 6) (P := fun x => decide (0 ≤ x) && decide (x < 7)) (F := fun k => x_fg1 c e k.1 k.2 J K) (fun x _ _ => by
    have e6 : (6 : Int32).toInt = 6 := by decide
    have e7 : (7 : Int32).toInt = 7 := by decide
    simp only [Bool.and_eq_true, decide_eq_true_eq, i_le, i_lt, e6, e7]
    omega)).trans ?_
  split
  · unfold b_fg0
    cases b_num c e (r + 1) 0 6 with
    | none => rfl
    | some p => exact x_fg1_b c e p.1 p.2 J K
  · rfl
theorem x_cll_b (c : Nat → Int32) (e r : Nat) {J : pv_I} {K : pv_L} (hW : WF J K) : x_cll c e r J K = if r < e ∧ c r = 32 then b_cl0 c e (r + 1) J K else .error r := by
  have hJ := hW.1
  have hj1 : (J 0 0 - 1).toInt = (J 0 0).toInt - 1 := by rw [Int32.toInt_sub, show (1 : Int32).toInt = 1 by decide]; exact bm32 (by omega)
  have e0 : x_cll c e r J K = (match x_rn c e r with | none => .error (x_rf c e r) | some p => if (decide (0 ≤ p.2) && decide (p.2 < J 0 0)) = true then (if (w_cal J K p.2.toNatClampNeg).1 = true then .ok (p.1, (w_cal J K p.2.toNatClampNeg).2) else .error (r + 1)) else .error (r + 1)) := by
    unfold x_cll
    cases x_rn c e r with
    | none => rfl
    | some p =>
      show (if (0 ≤ p.2 ∧ p.2 < J 0 0) ∧ (w_cal J K p.2.toNatClampNeg).1 = true then _ else _) = (if (decide (0 ≤ p.2) && decide (p.2 < J 0 0)) = true then _ else _)
      by_cases h1 : 0 ≤ p.2 ∧ p.2 < J 0 0
      · rw [if_pos (c := (decide (0 ≤ p.2) && decide (p.2 < J 0 0)) = true) (by simpa using h1)]
        by_cases h2 : (w_cal J K p.2.toNatClampNeg).1 = true
        · rw [if_pos ⟨h1, h2⟩, if_pos h2]
        · rw [if_neg (fun q => h2 q.2), if_neg h2]
      · rw [if_neg (fun q => h1 q.1), if_neg (c := (decide (0 ≤ p.2) && decide (p.2 < J 0 0)) = true) (by simpa using h1)]
  rw [e0, x_rnB (low := 0) (top := J 0 0 - 1) (P := fun x => decide (0 ≤ x) && decide (x < J 0 0)) (F := fun p => if (w_cal J K p.2.toNatClampNeg).1 = true then .ok (p.1, (w_cal J K p.2.toNatClampNeg).2) else .error (r + 1)) (fun x _ _ => by
    simp only [Bool.and_eq_true, decide_eq_true_eq, i_le, i_lt, hj1]
    omega)]
  split
  · unfold b_cl0
    cases b_num c e (r + 1) 0 (J 0 0 - 1) <;> rfl
  · rfl
theorem x_stt_b (c : Nat → Int32) (e r : Nat) (J : pv_I) (K : pv_L) : x_stt c e r J K = if r < e ∧ c r = 32 then b_st0 c e (r + 1) J K else .error r := by
  have e999 : (999 : Int32).toInt = 999 := by decide
  have hin : ∀ x : Int32, 0 ≤ x.toInt → x.toInt < 1000 → ((fun _ : Int32 => true) x = true ↔ (0 : Int32) ≤ x ∧ x ≤ 999) := fun x h0 h1 => by
    simp only [i_le, e999, Int32.toInt_zero, true_iff]; omega
  have in2 : ∀ (r : Nat) (p : Int32), (match x_rn c e r with | none => Except.error (x_rf c e r) | some q => if s_num p.toInt64 q.2.toInt64 = true then Except.ok (q.1, J, w_pq K p.toInt64 q.2.toInt64) else .error (r + 1)) = b_st1 c e r p J K := by
    intro r p
    have h := x_rnB (c := c) (e := e) (r := r) (F := fun q => if s_num p.toInt64 q.2.toInt64 = true then Except.ok (q.1, J, w_pq K p.toInt64 q.2.toInt64) else .error (r + 1)) hin
    unfold b_st1
    have h2 : (match x_rn c e r with | none => Except.error (x_rf c e r) | some q => if s_num p.toInt64 q.2.toInt64 = true then Except.ok (q.1, J, w_pq K p.toInt64 q.2.toInt64) else .error (r + 1)) = (match x_rn c e r with | none => Except.error (x_rf c e r) | some q => if (fun _ : Int32 => true) q.2 = true then (if s_num p.toInt64 q.2.toInt64 = true then Except.ok (q.1, J, w_pq K p.toInt64 q.2.toInt64) else .error (r + 1)) else .error (r + 1)) := by
      cases x_rn c e r with
      | none => rfl
      | some q => show _ = (if true = true then _ else _); rw [if_pos rfl]
    rw [h2, h]
    split
    · cases b_num c e (r + 1) 0 999 <;> rfl
    · rfl
  have h := x_rnB (c := c) (e := e) (r := r) (F := fun p => b_st1 c e p.1 p.2 J K) hin
  have h2 : x_stt c e r J K = (match x_rn c e r with | none => Except.error (x_rf c e r) | some p => if (fun _ : Int32 => true) p.2 = true then b_st1 c e p.1 p.2 J K else .error (r + 1)) := by
    unfold x_stt
    cases x_rn c e r with
    | none => rfl
    | some p =>
      show _ = (if true = true then _ else _)
      rw [if_pos rfl]
      exact in2 p.1 p.2
  rw [h2, h]
  split
  · unfold b_st0
    cases b_num c e (r + 1) 0 999 <;> rfl
  · rfl
theorem x_itm_b (c : Nat → Int32) (e r : Nat) {J : pv_I} {K : pv_L} (hW : WF J K) : x_itm c e r J K = b_item c e r J K := by
  have w0 : b_w0 = x_wd 0 ++ [32] := by decide
  have w1 : b_w1 = x_wd 1 ++ [32] := by decide
  have w2 : b_w2 = x_wd 2 ++ [32] := by decide
  have f6 : b_f6 = x_wd 0 := by decide
  have l0 : ∃ l, x_wd 0 = 102 :: l := ⟨_, rfl⟩
  have l1 : ∃ l, x_wd 1 = 99 :: l := ⟨_, rfl⟩
  have l2 : ∃ l, x_wd 2 = 115 :: l := ⟨_, rfl⟩
  have o0 : ¬ (r < e ∧ c r = 102) → b_lit c e (x_wd 0) r = (r, false) := fun h => by obtain ⟨l, hl⟩ := l0; rw [hl]; exact b_lit_o h
  have o1 : ¬ (r < e ∧ c r = 99) → b_lit c e (x_wd 1) r = (r, false) := fun h => by obtain ⟨l, hl⟩ := l1; rw [hl]; exact b_lit_o h
  have o2 : ¬ (r < e ∧ c r = 115) → b_lit c e (x_wd 2) r = (r, false) := fun h => by obtain ⟨l, hl⟩ := l2; rw [hl]; exact b_lit_o h
  have ap : ∀ i, b_lit c e (x_wd i ++ [32]) r = if (b_lit c e (x_wd i) r).2 = true then (if (b_lit c e (x_wd i) r).1 < e ∧ c (b_lit c e (x_wd i) r).1 = 32 then ((b_lit c e (x_wd i) r).1 + 1, true) else ((b_lit c e (x_wd i) r).1, false)) else b_lit c e (x_wd i) r := fun i => b_lit_x c e 32 (x_wd i) r
  have mx0 : b_mx r r = r := by unfold b_mx; rw [if_neg (Nat.lt_irrefl r)]
  have mx1 : ∀ a, r ≤ a → b_mx r a = a := fun a h => by unfold b_mx; split <;> omega
  have mx2 : ∀ a, r ≤ a → b_mx a r = a := fun a h => by unfold b_mx; split <;> omega
  unfold x_itm b_item b_word b_far x_one
  rw [w0, w1, w2, f6, ap 0, ap 1, ap 2]
  have g0 := (b_lit_le c e (x_wd 0) r).1
  have g1 := (b_lit_le c e (x_wd 1) r).1
  have g2 := (b_lit_le c e (x_wd 2) r).1
  by_cases h0 : r < e ∧ c r = 102
  · have n1 : ¬ (r < e ∧ c r = 99) := fun q => by rw [h0.2] at q; exact absurd q.2 (by decide)
    have n2 : ¬ (r < e ∧ c r = 115) := fun q => by rw [h0.2] at q; exact absurd q.2 (by decide)
    rw [if_pos h0, o1 n1, o2 n2]
    generalize b_lit c e (x_wd 0) r = y at *
    obtain ⟨a, b⟩ := y
    cases b with
    | false =>
      simp only [Bool.false_eq_true, if_false, false_and]
      rw [mx1 a g0, mx2 a g0, mx2 a g0]
    | true =>
      simp only [if_true, true_and, Bool.false_eq_true, if_false]
      by_cases h8 : J 0 0 = 8
      · rw [if_pos h8, if_pos h8]
      · rw [if_neg h8, if_neg h8, x_fig_b]
        by_cases hb : a < e ∧ c a = 32
        · rw [if_pos hb, if_pos hb]; rfl
        · rw [if_neg hb, if_neg hb]
          simp only [Bool.false_eq_true, if_false]
          rw [mx1 a g0, mx2 a g0, mx2 a g0]
  · rw [if_neg h0, o0 h0]
    simp only [Bool.false_eq_true, if_false, false_and]
    rw [mx0]
    by_cases h1 : r < e ∧ c r = 99
    · have n2 : ¬ (r < e ∧ c r = 115) := fun q => by rw [h1.2] at q; exact absurd q.2 (by decide)
      rw [if_pos h1, o2 n2]
      generalize b_lit c e (x_wd 1) r = y at *
      obtain ⟨a, b⟩ := y
      cases b with
      | false =>
        simp only [Bool.false_eq_true, if_false]
        rw [mx1 a g1, mx2 a g1]
      | true =>
        simp only [if_true, Bool.false_eq_true, if_false]
        rw [x_cll_b c e a hW]
        by_cases hb : a < e ∧ c a = 32
        · rw [if_pos hb, if_pos hb]; rfl
        · rw [if_neg hb, if_neg hb]
          simp only [Bool.false_eq_true, if_false]
          rw [mx1 a g1, mx2 a g1]
    · rw [if_neg h1, o1 h1]
      simp only [Bool.false_eq_true, if_false]
      rw [mx0]
      by_cases h2 : r < e ∧ c r = 115
      · rw [if_pos h2]
        generalize b_lit c e (x_wd 2) r = y at *
        obtain ⟨a, b⟩ := y
        cases b with
        | false =>
          simp only [Bool.false_eq_true, if_false]
          rw [mx1 a g2]
        | true =>
          simp only [if_true]
          rw [x_stt_b]
          by_cases hb : a < e ∧ c a = 32
          · rw [if_pos hb, if_pos hb]; rfl
          · rw [if_neg hb, if_neg hb]
            simp only [Bool.false_eq_true, if_false]
            rw [mx1 a g2]
      · rw [if_neg h2, o2 h2]
        simp only [Bool.false_eq_true, if_false]
        rw [mx0]
