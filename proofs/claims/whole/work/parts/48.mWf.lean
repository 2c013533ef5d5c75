/-! worlds stay well formed -/
theorem isN_add {p q k : Int64} (h : s_isN p q) (hk : -9 ≤ k.toInt ∧ k.toInt ≤ 9) (hr : s_room (p + k * q) q = true) : s_isN (p + k * q) q := by
  obtain ⟨h1, h2, h3, h4, h5⟩ := h
  simp only [s_room, Bool.and_eq_true, decide_eq_true_eq, l64_le, (show (1000000000000 : Int64).toInt = 1000000000000 from by decide), (show ((-1000000000000) : Int64).toInt = (-1000000000000) from by decide)] at hr
  have b1 : k.toInt * q.toInt ≤ 9 * q.toInt := Int.mul_le_mul_of_nonneg_right hk.2 h1
  have b2 : -9 * q.toInt ≤ k.toInt * q.toInt := Int.mul_le_mul_of_nonneg_right hk.1 h1
  have e1 : (k * q).toInt = k.toInt * q.toInt := l64_mul (by omega) (by omega)
  have e2 : (p + k * q).toInt = p.toInt + k.toInt * q.toInt := by rw [l64_add (by rw [e1]; omega) (by rw [e1]; omega), e1]
  refine ⟨h1, h2, hr.1.2, hr.1.1, ?_⟩
  rw [e2]
  by_cases e : q.toInt = 0
  · rw [if_pos e] at h5 ⊢
    rw [e, Int.mul_zero]; omega
  · rw [if_neg e] at h5 ⊢
    rw [Int.gcd_add_mul_right_left]; exact h5
theorem isN_turn {p q : Int64} (h : s_isN p q) : s_isN (s_stepP 2 p q) (s_stepQ 2 p q) := by
  obtain ⟨h1, h2, h3, h4, h5⟩ := h
  have a3 : (-p).toInt = -p.toInt := l64_neg (by omega)
  have a4 : (-q).toInt = -q.toInt := l64_neg (by omega)
  have e2 : s_stepP 2 p q = if p = 0 then 1 else if 0 < p then -q else q := rfl
  have f2 : s_stepQ 2 p q = if 0 < p then p else -p := rfl
  rw [e2, f2]
  unfold s_isN
  by_cases g : p = 0
  · subst g
    rw [if_pos rfl, if_neg (by decide)]
    exact ⟨by decide, by decide, by decide, by decide, by decide⟩
  · rw [if_neg g]
    have g1 := l64_n0.mp g
    by_cases g2 : 0 < p
    · simp only [if_pos g2]
      rw [l64_lt, l64_0] at g2
      refine ⟨by omega, by omega, by omega, by omega, ?_⟩
      rw [if_neg (by omega), a4, Int.neg_gcd, Int.gcd_comm]
      by_cases e : q.toInt = 0
      · rw [if_pos e] at h5
        rw [e, h5]; decide
      · rw [if_neg e] at h5; exact h5
    · simp only [if_neg g2]
      rw [l64_lt, l64_0] at g2
      refine ⟨by omega, by omega, by omega, by omega, ?_⟩
      rw [if_neg (by omega), a3, Int.gcd_neg, Int.gcd_comm]
      by_cases e : q.toInt = 0
      · rw [if_pos e] at h5; omega
      · rw [if_neg e] at h5; exact h5
theorem room_turn {p q : Int64} (h : s_isN p q) : s_room (s_stepP 2 p q) (s_stepQ 2 p q) = true := by
  obtain ⟨g1, g2, g3, g4, g5⟩ := isN_turn h
  simp only [s_room, Bool.and_eq_true, decide_eq_true_eq, l64_le, (show (1000000000000 : Int64).toInt = 1000000000000 from by decide), (show ((-1000000000000) : Int64).toInt = (-1000000000000) from by decide)]
  exact ⟨⟨g4, g3⟩, g2⟩
theorem WF.pq {J : pv_I} {K : pv_L} (h : WF J K) {p q : Int64} (hn : s_isN p q) : WF J (w_pq K p q) := by
  obtain ⟨h1, h2, h3, h4, h5, h6⟩ := h
  exact ⟨h1, h2, hn, h4, h5, h6⟩
theorem WF.dn {J : pv_I} {K : pv_L} (h : WF J K) (c : Nat → Int32) (n y : Int32) : WF (w_dn J c n y) K := by
  obtain ⟨h1, h2, h3, h4, h5, h6⟩ := h
  exact ⟨h1, h2, h3, h4, h5, h6⟩
theorem WF.f4 {J : pv_I} {K : pv_L} (h : WF J K) (v : Int32) : WF (pv_u J 0 4 v) K := by
  obtain ⟨h1, h2, h3, h4, h5, h6⟩ := h
  exact ⟨h1, h2, h3, h4, h5, h6⟩
theorem WF.cal {J : pv_I} {K : pv_L} (h : WF J K) {f : Int32} (hF : w_isF J f) : WF (w_cal J K f.toNatClampNeg).2.1 (w_cal J K f.toNatClampNeg).2.2 := by
  have hf := (hF.nat h).2
  have wf : 0 ≤ (J 2 f.toNatClampNeg).toInt ∧ (J 2 f.toNatClampNeg).toInt ≤ 9 := (h.2.1 _ hf).2.1
  unfold w_cal
  split
  · rename_i hr
    refine (h.dn _ _ _).pq ?_
    have hN := h.2.2.1
    generalize J 1 f.toNatClampNeg = k at *
    generalize J 2 f.toNatClampNeg = a at *
    unfold f_P f_Q at hr ⊢
    by_cases hc : s_isC k = true
    · simp only [if_pos hc] at hr ⊢
      refine isN_add hN ?_ hr
      rw [Int32.toInt_toInt64]
      unfold f_m
      split
      · decide
      · split
        · decide
        · omega
    · simp only [if_neg hc] at hr ⊢
      by_cases ht : s_isT k = true ∧ f_n k a % 2 = 1
      · simp only [if_pos ht]; exact isN_turn hN
      · simp only [if_neg ht]; exact hN
  · exact h
theorem WF.adds {J : pv_I} {K : pv_L} (h : WF J K) {k a c : Int32} (h8 : (J 0 0).toInt < 8) (hk : 0 ≤ k.toInt ∧ k.toInt ≤ 6) (ha : 0 ≤ a.toInt ∧ a.toInt ≤ 9) (hc : 1 ≤ c.toInt ∧ c.toInt ≤ 9) : WF (S_adds J k a c) K := by
  obtain ⟨h1, h2, h3, h4, h5, h6⟩ := h
  have hn := i_lit (J 0 0)
  have e : (S_adds J k a c 0 0).toInt = (J 0 0).toInt + 1 := by
    show (J 0 0 + 1).toInt = _
    rw [Jvm.Kit.i32_add (by rw [show (1 : Int32).toInt = 1 by decide]; omega) (by rw [show (1 : Int32).toInt = 1 by decide]; omega)]; rfl
  refine ⟨⟨by omega, by omega⟩, fun i hi => ?_, h3, fun s hs => ?_, h5, fun q => ?_⟩
  · rw [e] at hi
    show (0 ≤ (if 1 = 1 ∧ i = (J 0 0).toNatClampNeg then k else J 1 i).toInt ∧ (if 1 = 1 ∧ i = (J 0 0).toNatClampNeg then k else J 1 i).toInt ≤ 6) ∧ (0 ≤ (if 2 = 2 ∧ i = (J 0 0).toNatClampNeg then a else J 2 i).toInt ∧ (if 2 = 2 ∧ i = (J 0 0).toNatClampNeg then a else J 2 i).toInt ≤ 9) ∧ (1 ≤ (if 3 = 3 ∧ i = (J 0 0).toNatClampNeg then c else J 3 i).toInt ∧ (if 3 = 3 ∧ i = (J 0 0).toNatClampNeg then c else J 3 i).toInt ≤ 9)
    by_cases g : i = (J 0 0).toNatClampNeg
    · simp only [g, and_self, if_true]; exact ⟨hk, ha, hc⟩
    · simp only [g, and_false, if_false]; exact h2 i (by omega)
  · obtain ⟨w1, w2, w3⟩ := h4 s hs
    exact ⟨w1, w2, fun r => by have t := w3 r; have t2 := t.2; rw [e]; exact ⟨t.1, by show (J 9 s).toInt < _; omega⟩⟩
  · obtain ⟨⟨w1, w2⟩, w3⟩ := h6 q
    exact ⟨⟨w1, by rw [e]; show (J 0 7).toInt ≤ _; omega⟩, w3⟩
theorem b_word_le {c : Nat → Int32} {e r w r1 : Nat} (h : b_word c e r = some (w, r1)) (hr : r ≤ e) : r ≤ r1 ∧ r1 ≤ e := by
  have l0 := b_lit_le c e b_w0 r
  have l1 := b_lit_le c e b_w1 r
  have l2 := b_lit_le c e b_w2 r
  unfold b_word at h
  split at h
  · cases h; exact ⟨l0.1, l0.2.2 hr⟩
  · split at h
    · cases h; exact ⟨l1.1, l1.2.2 hr⟩
    · split at h
      · cases h; exact ⟨l2.1, l2.2.2 hr⟩
      · cases h
/-- an item that is read goes on in the text, and its world is well formed -/
theorem b_item_ok {c : Nat → Int32} {e r : Nat} {J : pv_I} {K : pv_L} {x : Nat} {J1 : pv_I} {K1 : pv_L} (hW : WF J K) (hr : r ≤ e) (h : b_item c e r J K = .ok (x, J1, K1)) : WF J1 K1 ∧ r < x ∧ x ≤ e ∧ (∀ s j, K1 (1 + s) j = K (1 + s) j) ∧ (∀ j, J1 8 j = J 8 j) := by
  unfold b_item at h
  split at h
  · cases h
  · rename_i h8
    split at h
    · cases h
    · rename_i p hp
      obtain ⟨w, r1⟩ := p
      have hle := b_word_le hp hr
      split at h
      · rename_i hw
        have hw : w = 0 := hw
        subst hw
        have h8' : (J 0 0).toInt < 8 := by
          have w0 := hW.1
          have : ¬ J 0 0 = 8 := fun q => h8 ⟨by
            have g : (b_lit c e b_w0 r).2 = true := by
              unfold b_word at hp
              split at hp
              · assumption
              · split at hp
                · cases hp
                · split at hp
                  · cases hp
                  · cases hp
            exact b_lit_app c e b_f6 [32] r g, q⟩
          rw [← Int32.toInt_inj, show (8 : Int32).toInt = 8 by decide] at this
          omega
        rw [b_fg0] at h
        split at h
        · cases h
        · rename_i p1 h1
          rw [b_fg1] at h
          split at h
          · split at h
            · cases h
            · rename_i p2 h2
              rw [b_fg2] at h
              split at h
              · split at h
                · cases h
                · rename_i p3 h3
                  cases h
                  obtain ⟨a1, a2, _, _⟩ := b_num_top h1
                  obtain ⟨b1, b2, _, _⟩ := b_num_top h2
                  obtain ⟨c1, c2, _, _⟩ := b_num_top h3
                  have l1 := b_num_le h1
                  have l2 := b_num_le h2
                  have l3 := b_num_le h3
                  simp only [i_le, (show (0 : Int32).toInt = 0 from by decide), (show (1 : Int32).toInt = 1 from by decide), (show (6 : Int32).toInt = 6 from by decide), (show (9 : Int32).toInt = 9 from by decide)] at a1 a2 b1 b2 c1 c2
                  exact ⟨hW.adds h8' ⟨a1, a2⟩ ⟨b1, b2⟩ ⟨c1, c2⟩, by have := hle.1; show r < p3.1; omega, l3.2, fun _ _ => rfl, fun _ => rfl⟩
              · cases h
          · cases h
      · split at h
        · rw [b_cl0] at h
          split at h
          · cases h
          · rename_i p1 h1
            split at h
            · rename_i hc
              obtain ⟨a1, a2, _, _⟩ := b_num_top h1
              have l1 := b_num_le h1
              have hF : w_isF J p1.2 := ⟨a1, i_tops hW a2⟩
              have wc := hW.cal hF
              have e : w_cal J K p1.2.toNatClampNeg = (true, w_dn J (f_C (J 1 p1.2.toNatClampNeg) (J 2 p1.2.toNatClampNeg) (J 4)) 1 (J 3 p1.2.toNatClampNeg), w_pq K (f_P (J 1 p1.2.toNatClampNeg) (J 2 p1.2.toNatClampNeg) (K 0 0) (K 0 1)) (f_Q (J 1 p1.2.toNatClampNeg) (J 2 p1.2.toNatClampNeg) (K 0 0) (K 0 1))) := w_cal_t hc
              rw [e] at h wc
              cases h
              exact ⟨wc, by have := hle.1; show r < p1.1; omega, l1.2, fun s j => by
                show w_pq K _ _ (1 + s) j = K (1 + s) j
                unfold w_pq
                rw [pv_u_app, if_neg (by omega), pv_u_app, if_neg (by omega)], fun _ => rfl⟩
            · cases h
        · rw [b_st0] at h
          split at h
          · cases h
          · rename_i p1 h1
            rw [b_st1] at h
            split at h
            · split at h
              · cases h
              · rename_i p2 h2
                split at h
                · rename_i hn
                  cases h
                  have l1 := b_num_le h1
                  have l2 := b_num_le h2
                  exact ⟨hW.pq ((s_num_iff _ _).mp hn), by have := hle.1; show r < p2.1; omega, l2.2, fun s j => by
                    show w_pq K _ _ (1 + s) j = K (1 + s) j
                    unfold w_pq
                    rw [pv_u_app, if_neg (by omega), pv_u_app, if_neg (by omega)], fun _ => rfl⟩
                · cases h
            · cases h

theorem m_al6_at (I : pv_I) : (∀ i, i < 8 → m_al1 I 76 63 i = I 76 i ∧ m_al1 I 76 64 i = I 76 (8 + i) ∧ m_al1 I 76 65 i = I 76 (16 + i)) ∧ (∀ c, c < 4 → m_al1 I 76 66 c = I 76 (24 + c)) ∧ (m_al1 I 76 61 0 = I 76 28 ∧ m_al1 I 76 61 1 = I 76 29 ∧ m_al1 I 76 61 2 = I 76 30 ∧ m_al1 I 76 61 3 = I 76 31) := by
  unfold m_al1
  refine ⟨fun i hi => ⟨?_, ?_, ?_⟩, fun c hc => ?_, ?_, ?_, ?_, ?_⟩
  · simp only [pv_u_ne _ _ (show 63 ≠ 61 by decide), m_cy_ne _ _ _ _ _ (show 63 ≠ 66 by decide), m_cy_ne _ _ _ _ _ (show 63 ≠ 65 by decide), m_cy_ne _ _ _ _ _ (show 63 ≠ 64 by decide)]
    rw [m_cy_in _ (by omega), show 0 + (i - 0) = i by omega]
  · simp only [pv_u_ne _ _ (show 64 ≠ 61 by decide), m_cy_ne _ _ _ _ _ (show 64 ≠ 66 by decide), m_cy_ne _ _ _ _ _ (show 64 ≠ 65 by decide)]
    rw [m_cy_in _ (by omega), m_cy_ne _ _ _ _ _ (show 76 ≠ 63 by decide), show 8 + (i - 0) = 8 + i by omega]
  · simp only [pv_u_ne _ _ (show 65 ≠ 61 by decide), m_cy_ne _ _ _ _ _ (show 65 ≠ 66 by decide)]
    rw [m_cy_in _ (by omega), m_cy_ne _ _ _ _ _ (show 76 ≠ 64 by decide), m_cy_ne _ _ _ _ _ (show 76 ≠ 63 by decide), show 16 + (i - 0) = 16 + i by omega]
  · simp only [pv_u_ne _ _ (show 66 ≠ 61 by decide)]
    rw [m_cy_in _ (by omega), m_cy_ne _ _ _ _ _ (show 76 ≠ 65 by decide), m_cy_ne _ _ _ _ _ (show 76 ≠ 64 by decide), m_cy_ne _ _ _ _ _ (show 76 ≠ 63 by decide), show 24 + (c - 0) = 24 + c by omega]
  · simp [pv_u_app]
  · simp [pv_u_app]
  · simp [pv_u_app]
  · simp [pv_u_app]
theorem m_al6_ne (I : pv_I) {x : Nat} (h : x ≠ 61 ∧ x ≠ 63 ∧ x ≠ 64 ∧ x ≠ 65 ∧ x ≠ 66) : m_al1 I 76 x = I x := by
  unfold m_al1
  simp only [pv_u_ne _ _ h.1, m_cy_ne _ _ _ _ _ h.2.1, m_cy_ne _ _ _ _ _ h.2.2.1, m_cy_ne _ _ _ _ _ h.2.2.2.1, m_cy_ne _ _ _ _ _ h.2.2.2.2]
theorem m_al6_61 (I : pv_I) {j : Nat} (h : 4 ≤ j) : m_al1 I 76 61 j = I 61 j := by
  unfold m_al1
  rw [pv_u_app, if_neg (by omega), pv_u_app, if_neg (by omega), pv_u_app, if_neg (by omega), pv_u_app, if_neg (by omega)]
  simp only [m_cy_ne _ _ _ _ _ (show 61 ≠ 66 by decide), m_cy_ne _ _ _ _ _ (show 61 ≠ 65 by decide), m_cy_ne _ _ _ _ _ (show 61 ≠ 64 by decide), m_cy_ne _ _ _ _ _ (show 61 ≠ 63 by decide)]

/-- all as it was before the barn was read -/
theorem RM.back {J : pv_I} {K : pv_L} {I I1 : pv_I} {L L1 : pv_L} (hW : WF J K) (h : RM J K I L) (hs : (∀ i, i < 8 → I 76 i = I 63 i ∧ I 76 (8 + i) = I 64 i ∧ I 76 (16 + i) = I 65 i) ∧ (∀ c, c < 4 → I 76 (24 + c) = I 66 c) ∧ I 76 28 = I 61 0 ∧ I 76 29 = I 61 1 ∧ I 76 30 = I 61 2 ∧ I 76 31 = I 61 3) (hl : L 78 0 = L 61 5 ∧ L 78 1 = L 61 6) (hI : bI I I1) (hL : bL L L1) : RM J K (m_al1 I1 76) (m_PQ L1 (L1 78 0) (L1 78 1)) := by
  have w0 := hW.1
  obtain ⟨⟨e0, e1, e2, e3, e4, e5, e6, e7, e8⟩, g2, g3, g4, g5, g6, g7, g8⟩ := h
  obtain ⟨s1, s2, s3, s4, s5, s6⟩ := hs
  obtain ⟨a1, a2, a3, a4, a5, a6⟩ := m_al6_at I1
  have x : ∀ a, a ≠ 63 → a ≠ 64 → a ≠ 65 → a ≠ 66 → a ≠ 73 → a ≠ 75 → a ≠ 61 → I1 a = I a := fun a h1 h2 h3 h4 h5 h6 h7 => funext fun j => hI a j h1 h2 h3 h4 h5 h6 (by omega)
  have y : ∀ a, a ≠ 61 → L1 a = L a := fun a h7 => funext fun j => hL a j (by omega)
  have x76 := x 76 (by decide) (by decide) (by decide) (by decide) (by decide) (by decide) (by decide)
  have n : ∀ a, a ≠ 61 ∧ a ≠ 63 ∧ a ≠ 64 ∧ a ≠ 65 ∧ a ≠ 66 → a ≠ 73 → a ≠ 75 → m_al1 I1 76 a = I a := fun a h1 h5 h6 => by rw [m_al6_ne I1 h1, x a h1.2.1 h1.2.2.1 h1.2.2.2.1 h1.2.2.2.2 h5 h6 h1.1]
  have z : ∀ j, 4 ≤ j → ¬ (j = 24 ∨ j = 26 ∨ j = 27) → m_al1 I1 76 61 j = I 61 j := fun j h1 h2 => by rw [m_al6_61 I1 h1, hI 61 j (by decide) (by decide) (by decide) (by decide) (by decide) (by decide) (by omega)]
  unfold RM RMi
  rw [n 62 (by decide) (by decide) (by decide), n 67 (by decide) (by decide) (by decide), n 68 (by decide) (by decide) (by decide), n 69 (by decide) (by decide) (by decide), n 70 (by decide) (by decide) (by decide), n 89 (by decide) (by decide) (by decide), n 77 (by decide) (by decide) (by decide), a3, a4, a5, a6, z 4 (by decide) (by decide), z 59 (by decide) (by decide), z 60 (by decide) (by decide), x76, y 78 (by decide)]
  have p71 : ∀ j, m_PQ L1 (L 78 0) (L 78 1) 71 j = L 71 j := fun j => by
    unfold m_PQ; rw [pv_u_app, if_neg (by omega), pv_u_app, if_neg (by omega), y 71 (by decide)]
  have p79 : ∀ j, m_PQ L1 (L 78 0) (L 78 1) 79 j = L 79 j := fun j => by
    unfold m_PQ; rw [pv_u_app, if_neg (by omega), pv_u_app, if_neg (by omega), y 79 (by decide)]
  refine ⟨⟨s3.trans e0, s4.trans e1, s5.trans e2, s6.trans e3, e4, e5, e6, hl.1.trans e7, hl.2.trans e8⟩, fun i hi => ?_, fun c hc => ?_, g4, g5, g6, fun s hs j hj => ?_, fun q => ?_⟩
  · obtain ⟨b1, b2, b3⟩ := a1 i (by omega)
    obtain ⟨c1, c2, c3⟩ := s1 i (by omega)
    rw [b1, b2, b3, x76, c1, c2, c3]
    exact g2 i hi
  · rw [a2 c hc, x76, s2 c hc]; exact g3 c hc
  · rw [p71]; exact g7 s hs j hj
  · rw [p79, p79]; exact g8 q
