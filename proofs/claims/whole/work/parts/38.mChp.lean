/-! the cheapest row: the best so far goes on from row to row -/
abbrev BS : Type := Option (List Int32 × Int32)
def w_bet (so : Int32) (k : Nat) : BS → Bool
  | none => true
  | some b => decide (so < b.2) || (decide (so = b.2) && decide (k < b.1.length))
def w_b1 (a b : Int64) (w : List Int32) (so : Int32) (p q : Int64) (bs : BS) : BS := if p = a ∧ q = b then (if w_bet so w.length bs = true then some (w, so) else bs) else bs
def w_chp (a b : Int64) (x y z : Int32) : Nat → List Int32 → Int32 → Int64 → Int64 → BS → BS
  | 0, w, so, p, q, bs => w_b1 a b w so p q bs
  | m + 1, w, so, p, q, bs => w_chp a b x y z m (w ++ [2]) (so + z) (s_stepP 2 p q) (s_stepQ 2 p q) (w_chp a b x y z m (w ++ [1]) (so + y) (s_stepP 1 p q) (s_stepQ 1 p q) (w_chp a b x y z m (w ++ [0]) (so + x) (s_stepP 0 p q) (s_stepQ 0 p q) (w_b1 a b w so p q bs)))
def bs_ok (I : pv_I) : BS → Prop
  | none => I 61 39 = -1
  | some b => b.1.length ≤ 7 ∧ I 61 39 = Int32.ofNat b.1.length ∧ I 61 40 = b.2 ∧ ∀ j x, b.1[j]? = some x → I 82 j = x
/-- memory as it was, but for what cheaper changes -/
def fc (k : Nat) (I I1 : pv_I) : Prop := ∀ a j, a ≠ 73 → a ≠ 82 → ¬ (a = 81 ∧ k ≤ j) → ¬ (a = 61 ∧ (j = 39 ∨ j = 40)) → I1 a j = I a j
theorem fc.rf {k : Nat} {I : pv_I} : fc k I I := fun _ _ _ _ _ _ => rfl
theorem fc.tr {k : Nat} {I I1 I2 : pv_I} (h : fc k I I1) (g : fc k I1 I2) : fc k I I2 := fun a j h1 h2 h3 h4 => (g a j h1 h2 h3 h4).trans (h a j h1 h2 h3 h4)
theorem fc.mono {k n : Nat} {I I1 : pv_I} (h : fc n I I1) (g : k ≤ n) : fc k I I1 := fun a j h1 h2 h3 h4 => h a j h1 h2 (fun r => h3 ⟨r.1, by omega⟩) h4
theorem fc.at {k : Nat} {I I1 : pv_I} (h : fc k I I1) (c : Nat → Int32) : fc k I (m_at I1 c) := fun a j h1 h2 h3 h4 => by rw [m_at_app, if_neg (fun r => h1 r.1)]; exact h a j h1 h2 h3 h4
theorem fc.u {k : Nat} {I I1 : pv_I} (h : fc k I I1) (a j : Nat) {v : Int32} (hj : (a = 81 ∧ k ≤ j) ∨ a = 82 ∨ (a = 61 ∧ (j = 39 ∨ j = 40))) : fc k I (pv_u I1 a j v) := fun b i h1 h2 h3 h4 => by rw [pv_u_app, if_neg (by omega)]; exact h b i h1 h2 h3 h4
theorem fc.kS {k : Nat} {I I1 : pv_I} {L : pv_L} (h : fc k I I1) : kS I L I1 L :=
  ⟨fun j _ => h 61 j (by decide) (by decide) (fun r => absurd r.1 (by decide)) (by omega), rfl, rfl, fun a ha => funext fun j => h a j (by omega) (by omega) (by omega) (by omega), fun _ _ => rfl⟩
/-- the tried row copied, so far -/
def m_cb (I : pv_I) (n : Nat) : pv_I := fun a j => if a = 82 ∧ j < n then I 81 j else I a j
theorem m_cb_0 (I : pv_I) : m_cb I 0 = I := by funext a j; unfold m_cb; rw [if_neg (by omega)]
theorem m_cb_s (I : pv_I) (n : Nat) (v : Int32) (h : v = I 81 n) : pv_u (m_cb I n) 82 n v = m_cb I (n + 1) := by
  funext a j
  rw [pv_u_app]
  unfold m_cb
  by_cases h1 : a = 82 ∧ j = n
  · rw [if_pos h1, if_pos (by omega), h, h1.2]
  · rw [if_neg h1]
    by_cases h2 : a = 82 ∧ j < n
    · rw [if_pos h2, if_pos (by omega)]
    · rw [if_neg h2, if_neg (by omega)]
theorem fc.cb {k n : Nat} {I I1 : pv_I} (h : fc k I I1) : fc k I (m_cb I1 n) := fun a j h1 h2 h3 h4 => by unfold m_cb; rw [if_neg (fun r => h2 r.1)]; exact h a j h1 h2 h3 h4

set_option maxRecDepth 100000 in
set_option maxHeartbeats 4000000 in
theorem l_cpb {G : pv_G} {d k : Nat} {Q : pv_Q} {so : Int32} {l4 l5 l6 l7 : Value} {t : pv_T} {I : pv_I} {L : pv_L} {Rf : pv_R} (hT : sh_ok t) (hR : rf_ok Rf) (hk : k ≤ 7) (hQ : pv_V G mX12_cheaper d 0 0 Q 0 0 91 [.ref 61, .int (Int32.ofNat k), .int so, .int (Int32.ofNat k), l4, l5, l6, l7] [] t (m_cb I k) L Rf) : ∀ (m n : Nat), n + m = k →
    pv_V G mX12_cheaper d 0 0 Q 0 0 68 [.ref 61, .int (Int32.ofNat k), .int so, .int (Int32.ofNat n), l4, l5, l6, l7] [] t (m_cb I n) L Rf := by
  intro m
  induction m with
  | zero =>
    intro n hn
    refine pv_iload_3 (pc := 68) dX12_cheaper_68 ?_
    refine pv_iload_1 (pc := 69) dX12_cheaper_69 ?_
    refine pv_icmp_ge (pc := 70) (tgt := 91) dX12_cheaper_70 (by decide) (fun h70 => ?_) (fun h70 => absurd h70 (by rw [i_lt, i_of (by omega), i_of (by omega)]; omega))
    rw [show n = k by omega]; exact hQ
  | succ m ih =>
    intro n hn
    refine pv_iload_3 (pc := 68) dX12_cheaper_68 ?_
    refine pv_iload_1 (pc := 69) dX12_cheaper_69 ?_
    refine pv_icmp_ge (pc := 70) (tgt := 91) dX12_cheaper_70 (by decide) (fun h70 => absurd h70 (not_not_intro (by rw [i_lt, i_of (by omega), i_of (by omega)]; omega))) (fun h70 => ?_)
    refine pv_aload_0 (pc := 73) dX12_cheaper_73 ?_
    refine pv_getR (pc := 74) dX12_cheaper_74 fg_X12_82_12 rfl (by decide) (sx_61 hT) (rx_61_38 hR) ?_
    refine pv_iload_3 (pc := 77) dX12_cheaper_77 ?_
    refine pv_aload_0 (pc := 78) dX12_cheaper_78 ?_
    refine pv_getR (pc := 79) dX12_cheaper_79 fg_X12_79_12 rfl (by decide) (sx_61 hT) (rx_61_37 hR) ?_
    refine pv_iload_3 (pc := 82) dX12_cheaper_82 ?_
    refine pv_ialoadj (pc := 83) dX12_cheaper_83 (sx_81 hT) rfl (i_in (k := n) (by omega) (by decide)) ?_
    refine pv_iastorej (pc := 84) dX12_cheaper_84 (by decide) (sx_82 hT) rfl (i_in (k := n) (by omega) (by decide)) ?_
    refine pv_memI (I := m_cb I (n + 1)) (by rw [i_nat (by omega)]; exact m_cb_s I n _ (by unfold m_cb; rw [if_neg (by omega)])) ?_
    refine pv_iinc_3 (pc := 85) (v := _ + 1) dX12_cheaper_85 rfl (by decide) rfl ?_
    refine pv_goto (pc := 88) (tgt := 68) dX12_cheaper_88 (by decide) ?_
    rw [i_inc]
    exact ih (n + 1) (by omega)

def q_chp (a b : Int64) (x y z : Int32) (m : Nat) (w : List Int32) (so : Int32) (p q : Int64) (bs : BS) (t : pv_T) (I : pv_I) (L : pv_L) (Rf : pv_R) : pv_Q := fun v t1 I1 L1 R1 => v = none ∧ t1 = t ∧ R1 = Rf ∧ L1 = L ∧ fc w.length I I1 ∧ bs_ok I1 (w_chp a b x y z m w so p q bs)
theorem tr_app {I I1 : pv_I} {w : List Int32} {s : Int32} (h : tr_ok I 0 w) (hf : ∀ j, j < w.length → I1 81 j = I 81 j) (h1 : I1 81 w.length = s) : tr_ok I1 0 (w ++ [s]) := by
  intro j x hx
  rw [Nat.zero_add]
  by_cases e : j < w.length
  · rw [List.getElem?_append_left e] at hx
    rw [hf j e, ← h j x hx, Nat.zero_add]
  · rw [List.getElem?_append_right (by omega)] at hx
    by_cases e2 : j = w.length
    · rw [e2, Nat.sub_self, List.getElem?_cons_zero] at hx
      cases hx
      rw [e2]; exact h1
    · rw [show j - w.length = (j - w.length - 1) + 1 by omega, List.getElem?_cons_succ] at hx
      cases hx
theorem bs_len {I : pv_I} {b : List Int32 × Int32} (h : bs_ok I (some b)) : I 61 39 = Int32.ofNat b.1.length ∧ I 61 40 = b.2 ∧ b.1.length ≤ 7 := ⟨h.2.1, h.2.2.1, h.1⟩
theorem bs_at {I : pv_I} {bs : BS} (h : bs_ok I bs) {I1 : pv_I} (h1 : I1 61 39 = I 61 39) (h2 : I1 61 40 = I 61 40) (h3 : ∀ j, I1 82 j = I 82 j) : bs_ok I1 bs := by
  cases bs with
  | none => exact h1.trans h
  | some b => exact ⟨h.1, h1.trans h.2.1, h2.trans h.2.2.1, fun j x hx => (h3 j).trans (h.2.2.2 j x hx)⟩
theorem w_bet_iff {I : pv_I} {bs : BS} (h : bs_ok I bs) {so : Int32} {k : Nat} (hk : k ≤ 7) : w_bet so k bs = true ↔ (I 61 39 = -1 ∨ so < I 61 40 ∨ (so = I 61 40 ∧ Int32.ofNat k < I 61 39)) := by
  cases bs with
  | none =>
    have e : I 61 39 = -1 := h
    exact ⟨fun _ => Or.inl e, fun _ => rfl⟩
  | some b =>
    obtain ⟨e1, e2, e3⟩ := bs_len h
    rw [e1, e2]
    have e4 : ¬ Int32.ofNat b.1.length = -1 := by rw [← Int32.toInt_inj, i_of (by omega), show (-1 : Int32).toInt = -1 by decide]; omega
    have e5 : Int32.ofNat k < Int32.ofNat b.1.length ↔ k < b.1.length := by rw [i_lt, i_of (by omega), i_of (by omega)]; omega
    rw [e5]
    simp only [w_bet, Bool.or_eq_true, Bool.and_eq_true, decide_eq_true_eq, e4, false_or]
set_option maxRecDepth 100000 in
set_option maxHeartbeats 4000000 in
theorem l_chp {G : pv_G} {a b : Int64} {x y z : Int32} {t : pv_T} {Rf : pv_R} (hT : sh_ok t) (hR : rf_ok Rf) : ∀ (m : Nat), ∀ (d : Nat) (w : List Int32) (so : Int32), w.length + m = 7 → m + 2 ≤ d → ∀ (I : pv_I) (L : pv_L) (p q : Int64) (bs : BS), L 61 18 = p → L 61 19 = q → L 61 45 = a → L 61 46 = b → I 61 41 = x → I 61 42 = y → I 61 43 = z → tr_ok I 0 w → bs_ok I bs →
    pv_Mt G mX12_cheaper d 0 0 [.ref 61, .int (Int32.ofNat w.length), .int so] t I L Rf (q_chp a b x y z m w so p q bs t I L Rf) := by
  intro m
  induction m with
  | zero =>
    intro d w so hk hd I L p q bs hp hq ha hb hx hy hz hw hbs
    have rest : ∀ (l3 l4 l5 l6 l7 : Value) (I1 : pv_I), fc w.length I I1 → bs_ok I1 (w_b1 a b w so p q bs) → pv_V G mX12_cheaper d 0 0 (q_chp a b x y z 0 w so p q bs t I L Rf) 0 0 91 [.ref 61, .int (Int32.ofNat w.length), .int so, l3, l4, l5, l6, l7] [] t I1 L Rf := by
      intro l3 l4 l5 l6 l7 I1 hr0 hbr
      have hxr : I1 61 41 = x := (hr0 61 41 (by decide) (by decide) (by omega) (by omega)).trans hx
      have hyr : I1 61 42 = y := (hr0 61 42 (by decide) (by decide) (by omega) (by omega)).trans hy
      have hzr : I1 61 43 = z := (hr0 61 43 (by decide) (by decide) (by omega) (by omega)).trans hz
      have hwr : tr_ok I1 0 w := fun j v hv => by
        have hj : j < w.length := (List.getElem?_eq_some_iff.mp hv).1
        rw [Nat.zero_add, hr0 81 j (by decide) (by decide) (by omega) (by omega), ← hw j v hv, Nat.zero_add]
      refine pv_iload_1 (pc := 91) dX12_cheaper_91 ?_
      refine pv_bipush (pc := 92) (v := 7) dX12_cheaper_92 (by decide) ?_
      refine pv_icmp_ne (pc := 94) (tgt := 98) dX12_cheaper_94 (by decide) (fun h94 => absurd h94 (not_not_intro (by rw [← Int32.toInt_inj, i_of (by omega), show (7 : Int32).toInt = 7 by decide]; omega))) (fun h94 => ?_)
      refine pv_vret (pc := 97) dX12_cheaper_97 rfl ?_
      exact ⟨rfl, rfl, rfl, rfl, hr0, hbr⟩
    refine pv_mt mgX12_cheaper.2.2.2.2.2 [.ref 61, .int (Int32.ofNat w.length), .int so, .retAddr 0, .retAddr 0, .retAddr 0, .retAddr 0, .retAddr 0] rfl (Nat.le_of_ble_eq_true rfl) ?_
    refine pv_aload_0 (pc := 0) dX12_cheaper_0 ?_
    refine pv_getL (pc := 1) dX12_cheaper_1 fg_X12_150_12 (by decide) (sx_61 hT) ?_
    refine pv_aload_0 (pc := 4) dX12_cheaper_4 ?_
    refine pv_getL (pc := 5) dX12_cheaper_5 fg_X12_280_12 (by decide) (sx_61 hT) ?_
    refine pv_lcmp_ne (pc := 8) (tgt := 91) dX12_cheaper_8 dX12_cheaper_9 (by decide) (fun h8 => ?_) (fun h8 => ?_)
    · exact rest _ _ _ _ _ _ fc.rf (by
        have e : w_b1 a b w so p q bs = bs := by
          unfold w_b1
          first
            | (have f1 := h8; rw [hp, ha] at f1; rw [if_neg (fun r => f1 r.1)]; done)
            | (have f1 := h20; rw [hq, hb] at f1; rw [if_neg (fun r => f1 r.2)]; done)
            | (have f1 := h45; have f2 := h37; have f3 := h29
               split
               · rw [if_neg (fun r => by rcases (w_bet_iff hbs (by omega)).mp r with g | g | g; exact f3 g; exact f2 g; exact f1 g.1)]
               · rfl)
            | (have f1 := h53; have f2 := h37; have f3 := h29
               split
               · rw [if_neg (fun r => by rcases (w_bet_iff hbs (by omega)).mp r with g | g | g; exact f3 g; exact f2 g; exact f1 g.2)]
               · rfl)
        rw [e]; exact hbs)
    · refine pv_aload_0 (pc := 12) dX12_cheaper_12 ?_
      refine pv_getL (pc := 13) dX12_cheaper_13 fg_X12_153_12 (by decide) (sx_61 hT) ?_
      refine pv_aload_0 (pc := 16) dX12_cheaper_16 ?_
      refine pv_getL (pc := 17) dX12_cheaper_17 fg_X12_283_12 (by decide) (sx_61 hT) ?_
      refine pv_lcmp_ne (pc := 20) (tgt := 91) dX12_cheaper_20 dX12_cheaper_21 (by decide) (fun h20 => ?_) (fun h20 => ?_)
      · exact rest _ _ _ _ _ _ fc.rf (by
          have e : w_b1 a b w so p q bs = bs := by
            unfold w_b1
            first
              | (have f1 := h8; rw [hp, ha] at f1; rw [if_neg (fun r => f1 r.1)]; done)
              | (have f1 := h20; rw [hq, hb] at f1; rw [if_neg (fun r => f1 r.2)]; done)
              | (have f1 := h45; have f2 := h37; have f3 := h29
                 split
                 · rw [if_neg (fun r => by rcases (w_bet_iff hbs (by omega)).mp r with g | g | g; exact f3 g; exact f2 g; exact f1 g.1)]
                 · rfl)
              | (have f1 := h53; have f2 := h37; have f3 := h29
                 split
                 · rw [if_neg (fun r => by rcases (w_bet_iff hbs (by omega)).mp r with g | g | g; exact f3 g; exact f2 g; exact f1 g.2)]
                 · rfl)
          rw [e]; exact hbs)
      · refine pv_aload_0 (pc := 24) dX12_cheaper_24 ?_
        refine pv_getI (pc := 25) dX12_cheaper_25 fg_X12_298_12 rfl (by decide) (sx_61 hT) ?_
        refine pv_iconst (pc := 28) (v := (-1)) dX12_cheaper_28 (by decide) ?_
        refine pv_icmp_eq (pc := 29) (tgt := 56) dX12_cheaper_29 (by decide) (fun h29 => ?_) (fun h29 => ?_)
        · refine pv_aload_0 (pc := 56) dX12_cheaper_56 ?_
          refine pv_iload_1 (pc := 57) dX12_cheaper_57 ?_
          refine pv_putI (pc := 58) dX12_cheaper_58 fl_X12_298_12 (fun q => by cases q) ⟨rfl, rfl, rfl⟩ (by decide) (sx_61 hT) ?_
          refine pv_aload_0 (pc := 61) dX12_cheaper_61 ?_
          refine pv_iload_2 (pc := 62) dX12_cheaper_62 ?_
          refine pv_putI (pc := 63) dX12_cheaper_63 fl_X12_301_12 (fun q => by cases q) ⟨rfl, rfl, rfl⟩ (by decide) (sx_61 hT) ?_
          refine pv_iconst (pc := 66) (v := 0) dX12_cheaper_66 (by decide) ?_
          refine pv_istore_3 (pc := 67) dX12_cheaper_67 (by decide) rfl ?_
          refine pv_memI (m_cb_0 _).symm ?_
          have hbet : w_bet so w.length bs = true := (w_bet_iff hbs (by omega)).mpr (by
            first
              | exact Or.inl h29
              | exact Or.inr (Or.inl h37)
              | (have f1 := h45; exact Or.inr (Or.inr ⟨Classical.not_not.mp f1, h53⟩))
              | (have f1 := h45; exact Or.inr (Or.inr ⟨f1, h53⟩)))
          have hpq : p = a ∧ q = b := by
            have f1 := h8
            have f2 := h20
            rw [hp, ha] at f1
            rw [hq, hb] at f2
            exact ⟨f1, f2⟩
          refine l_cpb hT hR (by omega) (rest _ _ _ _ _ _ ((fc.rf.u 61 39 (by omega)).u 61 40 (by omega) |>.cb) ?_) w.length 0 (by omega)
          rw [w_b1, if_pos hpq, if_pos hbet]
          exact ⟨(show w.length ≤ 7 by omega), rfl, rfl, fun j v hv => by
            have hj : j < w.length := (List.getElem?_eq_some_iff.mp hv).1
            unfold m_cb
            rw [if_pos ⟨rfl, hj⟩, ← hw j v hv, Nat.zero_add]; rfl⟩
        · refine pv_iload_2 (pc := 32) dX12_cheaper_32 ?_
          refine pv_aload_0 (pc := 33) dX12_cheaper_33 ?_
          refine pv_getI (pc := 34) dX12_cheaper_34 fg_X12_301_12 rfl (by decide) (sx_61 hT) ?_
          refine pv_icmp_lt (pc := 37) (tgt := 56) dX12_cheaper_37 (by decide) (fun h37 => ?_) (fun h37 => ?_)
          · refine pv_aload_0 (pc := 56) dX12_cheaper_56 ?_
            refine pv_iload_1 (pc := 57) dX12_cheaper_57 ?_
            refine pv_putI (pc := 58) dX12_cheaper_58 fl_X12_298_12 (fun q => by cases q) ⟨rfl, rfl, rfl⟩ (by decide) (sx_61 hT) ?_
            refine pv_aload_0 (pc := 61) dX12_cheaper_61 ?_
            refine pv_iload_2 (pc := 62) dX12_cheaper_62 ?_
            refine pv_putI (pc := 63) dX12_cheaper_63 fl_X12_301_12 (fun q => by cases q) ⟨rfl, rfl, rfl⟩ (by decide) (sx_61 hT) ?_
            refine pv_iconst (pc := 66) (v := 0) dX12_cheaper_66 (by decide) ?_
            refine pv_istore_3 (pc := 67) dX12_cheaper_67 (by decide) rfl ?_
            refine pv_memI (m_cb_0 _).symm ?_
            have hbet : w_bet so w.length bs = true := (w_bet_iff hbs (by omega)).mpr (by
              first
                | exact Or.inl h29
                | exact Or.inr (Or.inl h37)
                | (have f1 := h45; exact Or.inr (Or.inr ⟨Classical.not_not.mp f1, h53⟩))
                | (have f1 := h45; exact Or.inr (Or.inr ⟨f1, h53⟩)))
            have hpq : p = a ∧ q = b := by
              have f1 := h8
              have f2 := h20
              rw [hp, ha] at f1
              rw [hq, hb] at f2
              exact ⟨f1, f2⟩
            refine l_cpb hT hR (by omega) (rest _ _ _ _ _ _ ((fc.rf.u 61 39 (by omega)).u 61 40 (by omega) |>.cb) ?_) w.length 0 (by omega)
            rw [w_b1, if_pos hpq, if_pos hbet]
            exact ⟨(show w.length ≤ 7 by omega), rfl, rfl, fun j v hv => by
              have hj : j < w.length := (List.getElem?_eq_some_iff.mp hv).1
              unfold m_cb
              rw [if_pos ⟨rfl, hj⟩, ← hw j v hv, Nat.zero_add]; rfl⟩
          · refine pv_iload_2 (pc := 40) dX12_cheaper_40 ?_
            refine pv_aload_0 (pc := 41) dX12_cheaper_41 ?_
            refine pv_getI (pc := 42) dX12_cheaper_42 fg_X12_301_12 rfl (by decide) (sx_61 hT) ?_
            refine pv_icmp_ne (pc := 45) (tgt := 91) dX12_cheaper_45 (by decide) (fun h45 => ?_) (fun h45 => ?_)
            · exact rest _ _ _ _ _ _ fc.rf (by
                have e : w_b1 a b w so p q bs = bs := by
                  unfold w_b1
                  first
                    | (have f1 := h8; rw [hp, ha] at f1; rw [if_neg (fun r => f1 r.1)]; done)
                    | (have f1 := h20; rw [hq, hb] at f1; rw [if_neg (fun r => f1 r.2)]; done)
                    | (have f1 := h45; have f2 := h37; have f3 := h29
                       split
                       · rw [if_neg (fun r => by rcases (w_bet_iff hbs (by omega)).mp r with g | g | g; exact f3 g; exact f2 g; exact f1 g.1)]
                       · rfl)
                    | (have f1 := h53; have f2 := h37; have f3 := h29
                       split
                       · rw [if_neg (fun r => by rcases (w_bet_iff hbs (by omega)).mp r with g | g | g; exact f3 g; exact f2 g; exact f1 g.2)]
                       · rfl)
                rw [e]; exact hbs)
            · refine pv_iload_1 (pc := 48) dX12_cheaper_48 ?_
              refine pv_aload_0 (pc := 49) dX12_cheaper_49 ?_
              refine pv_getI (pc := 50) dX12_cheaper_50 fg_X12_298_12 rfl (by decide) (sx_61 hT) ?_
              refine pv_icmp_ge (pc := 53) (tgt := 91) dX12_cheaper_53 (by decide) (fun h53 => ?_) (fun h53 => ?_)
              · exact rest _ _ _ _ _ _ fc.rf (by
                  have e : w_b1 a b w so p q bs = bs := by
                    unfold w_b1
                    first
                      | (have f1 := h8; rw [hp, ha] at f1; rw [if_neg (fun r => f1 r.1)]; done)
                      | (have f1 := h20; rw [hq, hb] at f1; rw [if_neg (fun r => f1 r.2)]; done)
                      | (have f1 := h45; have f2 := h37; have f3 := h29
                         split
                         · rw [if_neg (fun r => by rcases (w_bet_iff hbs (by omega)).mp r with g | g | g; exact f3 g; exact f2 g; exact f1 g.1)]
                         · rfl)
                      | (have f1 := h53; have f2 := h37; have f3 := h29
                         split
                         · rw [if_neg (fun r => by rcases (w_bet_iff hbs (by omega)).mp r with g | g | g; exact f3 g; exact f2 g; exact f1 g.2)]
                         · rfl)
                  rw [e]; exact hbs)
              · refine pv_aload_0 (pc := 56) dX12_cheaper_56 ?_
                refine pv_iload_1 (pc := 57) dX12_cheaper_57 ?_
                refine pv_putI (pc := 58) dX12_cheaper_58 fl_X12_298_12 (fun q => by cases q) ⟨rfl, rfl, rfl⟩ (by decide) (sx_61 hT) ?_
                refine pv_aload_0 (pc := 61) dX12_cheaper_61 ?_
                refine pv_iload_2 (pc := 62) dX12_cheaper_62 ?_
                refine pv_putI (pc := 63) dX12_cheaper_63 fl_X12_301_12 (fun q => by cases q) ⟨rfl, rfl, rfl⟩ (by decide) (sx_61 hT) ?_
                refine pv_iconst (pc := 66) (v := 0) dX12_cheaper_66 (by decide) ?_
                refine pv_istore_3 (pc := 67) dX12_cheaper_67 (by decide) rfl ?_
                refine pv_memI (m_cb_0 _).symm ?_
                have hbet : w_bet so w.length bs = true := (w_bet_iff hbs (by omega)).mpr (by
                  first
                    | exact Or.inl h29
                    | exact Or.inr (Or.inl h37)
                    | (have f1 := h45; exact Or.inr (Or.inr ⟨Classical.not_not.mp f1, h53⟩))
                    | (have f1 := h45; exact Or.inr (Or.inr ⟨f1, h53⟩)))
                have hpq : p = a ∧ q = b := by
                  have f1 := h8
                  have f2 := h20
                  rw [hp, ha] at f1
                  rw [hq, hb] at f2
                  exact ⟨f1, f2⟩
                refine l_cpb hT hR (by omega) (rest _ _ _ _ _ _ ((fc.rf.u 61 39 (by omega)).u 61 40 (by omega) |>.cb) ?_) w.length 0 (by omega)
                rw [w_b1, if_pos hpq, if_pos hbet]
                exact ⟨(show w.length ≤ 7 by omega), rfl, rfl, fun j v hv => by
                  have hj : j < w.length := (List.getElem?_eq_some_iff.mp hv).1
                  unfold m_cb
                  rw [if_pos ⟨rfl, hj⟩, ← hw j v hv, Nat.zero_add]; rfl⟩
  | succ m ih =>
    intro d w so hk hd I L p q bs hp hq ha hb hx hy hz hw hbs
    have rest : ∀ (l3 l4 l5 l6 l7 : Value) (I1 : pv_I), fc w.length I I1 → bs_ok I1 (w_b1 a b w so p q bs) → pv_V G mX12_cheaper d 0 0 (q_chp a b x y z (m + 1) w so p q bs t I L Rf) 0 0 91 [.ref 61, .int (Int32.ofNat w.length), .int so, l3, l4, l5, l6, l7] [] t I1 L Rf := by
      intro l3 l4 l5 l6 l7 I1 hr0 hbr
      have hxr : I1 61 41 = x := (hr0 61 41 (by decide) (by decide) (by omega) (by omega)).trans hx
      have hyr : I1 61 42 = y := (hr0 61 42 (by decide) (by decide) (by omega) (by omega)).trans hy
      have hzr : I1 61 43 = z := (hr0 61 43 (by decide) (by decide) (by omega) (by omega)).trans hz
      have hwr : tr_ok I1 0 w := fun j v hv => by
        have hj : j < w.length := (List.getElem?_eq_some_iff.mp hv).1
        rw [Nat.zero_add, hr0 81 j (by decide) (by decide) (by omega) (by omega), ← hw j v hv, Nat.zero_add]
      refine pv_iload_1 (pc := 91) dX12_cheaper_91 ?_
      refine pv_bipush (pc := 92) (v := 7) dX12_cheaper_92 (by decide) ?_
      refine pv_icmp_ne (pc := 94) (tgt := 98) dX12_cheaper_94 (by decide) (fun h94 => ?_) (fun h94 => absurd h94 (by intro r; rw [← Int32.toInt_inj, i_of (by omega), show (7 : Int32).toInt = 7 by decide] at r; omega))
      refine pv_aload_0 (pc := 98) dX12_cheaper_98 ?_
      refine pv_getL (pc := 99) dX12_cheaper_99 fg_X12_150_12 (by decide) (sx_61 hT) ?_
      refine pv_lstore_3 (pc := 102) dX12_cheaper_102 (by decide) rfl ?_
      refine pv_aload_0 (pc := 103) dX12_cheaper_103 ?_
      refine pv_getL (pc := 104) dX12_cheaper_104 fg_X12_153_12 (by decide) (sx_61 hT) ?_
      refine pv_lstore_5 (pc := 107) dX12_cheaper_107 (by decide) rfl ?_
      refine pv_iconst (pc := 109) (v := 0) dX12_cheaper_109 (by decide) ?_
      refine pv_istore_7 (pc := 110) dX12_cheaper_110 (by decide) rfl ?_
      refine pv_iload_7 (pc := 112) dX12_cheaper_112 ?_
      refine pv_iconst (pc := 114) (v := 3) dX12_cheaper_114 (by decide) ?_
      refine pv_icmp_ge (pc := 115) (tgt := 187) dX12_cheaper_115 (by decide) (fun q => absurd q (by decide)) (fun _ => ?_)
      refine pv_aload_0 (pc := 118) dX12_cheaper_118 ?_
      refine pv_getR (pc := 119) dX12_cheaper_119 fg_X12_79_12 rfl (by decide) (sx_61 hT) (rx_61_37 hR) ?_
      refine pv_iload_1 (pc := 122) dX12_cheaper_122 ?_
      refine pv_iload_7 (pc := 123) dX12_cheaper_123 ?_
      refine pv_iastorej (pc := 125) dX12_cheaper_125 (by decide) (sx_81 hT) rfl (i_in (k := w.length) (by omega) (by decide)) ?_
      refine pv_aload_0 (pc := 126) dX12_cheaper_126 ?_
      refine pv_iload_7 (pc := 127) dX12_cheaper_127 ?_
      refine pv_callV0 (pc := 129) dX12_cheaper_129 mgX12_step lv_X12_286_12 (by decide) (sx_61 hT) (by omega) (c_X12_step hT hR (by decide) (by omega)) rfl rfl (by decide) ?_
      refine pv_aload_0 (pc := 132) dX12_cheaper_132 ?_
      refine pv_iload_1 (pc := 133) dX12_cheaper_133 ?_
      refine pv_iconst (pc := 134) (v := 1) dX12_cheaper_134 (by decide) ?_
      refine pv_iadd (pc := 135) dX12_cheaper_135 ?_
      refine pv_topv2 (y := Int32.ofNat (w ++ [0]).length) (by rw [List.length_append, List.length_singleton]; exact i_inc _) ?_
      refine pv_iload_2 (pc := 136) dX12_cheaper_136 ?_
      refine pv_iload_7 (pc := 137) dX12_cheaper_137 ?_
      refine pv_if_ne (pc := 139) (tgt := 149) dX12_cheaper_139 (by decide) (fun q => absurd q (by decide)) (fun _ => ?_)
      refine pv_aload_0 (pc := 142) dX12_cheaper_142 ?_
      refine pv_getI (pc := 143) dX12_cheaper_143 fg_X12_304_12 rfl (by decide) (sx_61 hT) ?_
      refine pv_goto (pc := 146) (tgt := 166) dX12_cheaper_146 (by decide) ?_
      refine pv_iadd (pc := 166) dX12_cheaper_166 ?_
      refine pv_topv2 (y := so + x) (congrArg (fun r => so + r) hxr) ?_
      refine pv_callVq (pc := 167) dX12_cheaper_167 mgX12_cheaper lv_X12_313_12 (by decide) (sx_61 hT) (by omega) (ih (d - 1) (w ++ [0]) (so + x) (by rw [List.length_append, List.length_singleton]; omega) (by omega) _ _ (s_stepP 0 p q) (s_stepQ 0 p q) _ (by rw [← hp, ← hq]; rfl) (by rw [← hp, ← hq]; rfl) ha hb hxr hyr hzr (tr_app hwr (fun j hj => by rw [m_at_app, if_neg (by omega), pv_u_app, if_neg (by rw [i_nat (by omega)]; omega)]) (by rw [m_at_app, if_neg (by omega), pv_u_app, if_pos ⟨rfl, (i_nat (by omega)).symm⟩])) (bs_at hbr rfl rfl (fun _ => rfl))) rfl rfl (by decide) (fun v t I L Rf hq => ?_)
      obtain ⟨rfl, rfl, rfl, rfl, hf0, hb0⟩ := hq
      rw [List.length_append, List.length_singleton] at hf0
      have hF0 : fc w.length _ I := ((fc.rf.u 81 _ (Or.inl ⟨rfl, (by rw [i_nat (by omega)]; exact Nat.le_refl _)⟩)).at _).tr (hf0.mono (by omega))
      have hg0 := hr0.tr hF0
      have hx0 : I 61 41 = x := (hg0 61 41 (by decide) (by decide) (by omega) (by omega)).trans hx
      have hy0 : I 61 42 = y := (hg0 61 42 (by decide) (by decide) (by omega) (by omega)).trans hy
      have hz0 : I 61 43 = z := (hg0 61 43 (by decide) (by decide) (by omega) (by omega)).trans hz
      have hw0 : tr_ok I 0 w := fun j v hv => by
        have hj : j < w.length := (List.getElem?_eq_some_iff.mp hv).1
        rw [Nat.zero_add, hF0 81 j (by decide) (by decide) (by omega) (by omega), ← hwr j v hv, Nat.zero_add]
      refine pv_aload_0 (pc := 170) dX12_cheaper_170 ?_
      refine pv_lload_3 (pc := 171) dX12_cheaper_171 ?_
      refine pv_putL (pc := 172) dX12_cheaper_172 fl_X12_150_12 (fun q => by cases q) (by decide) (sx_61 hT) ?_
      refine pv_aload_0 (pc := 175) dX12_cheaper_175 ?_
      refine pv_lload_5 (pc := 176) dX12_cheaper_176 ?_
      refine pv_putL (pc := 178) dX12_cheaper_178 fl_X12_153_12 (fun q => by cases q) (by decide) (sx_61 hT) ?_
      refine pv_memL (L := L) (m_pq_back L _ _) ?_
      refine pv_iinc_7 (pc := 181) (v := 1) dX12_cheaper_181 (by decide) (by decide) rfl ?_
      refine pv_goto (pc := 184) (tgt := 112) dX12_cheaper_184 (by decide) ?_
      refine pv_iload_7 (pc := 112) dX12_cheaper_112 ?_
      refine pv_iconst (pc := 114) (v := 3) dX12_cheaper_114 (by decide) ?_
      refine pv_icmp_ge (pc := 115) (tgt := 187) dX12_cheaper_115 (by decide) (fun q => absurd q (by decide)) (fun _ => ?_)
      refine pv_aload_0 (pc := 118) dX12_cheaper_118 ?_
      refine pv_getR (pc := 119) dX12_cheaper_119 fg_X12_79_12 rfl (by decide) (sx_61 hT) (rx_61_37 hR) ?_
      refine pv_iload_1 (pc := 122) dX12_cheaper_122 ?_
      refine pv_iload_7 (pc := 123) dX12_cheaper_123 ?_
      refine pv_iastorej (pc := 125) dX12_cheaper_125 (by decide) (sx_81 hT) rfl (i_in (k := w.length) (by omega) (by decide)) ?_
      refine pv_aload_0 (pc := 126) dX12_cheaper_126 ?_
      refine pv_iload_7 (pc := 127) dX12_cheaper_127 ?_
      refine pv_callV0 (pc := 129) dX12_cheaper_129 mgX12_step lv_X12_286_12 (by decide) (sx_61 hT) (by omega) (c_X12_step hT hR (by decide) (by omega)) rfl rfl (by decide) ?_
      refine pv_aload_0 (pc := 132) dX12_cheaper_132 ?_
      refine pv_iload_1 (pc := 133) dX12_cheaper_133 ?_
      refine pv_iconst (pc := 134) (v := 1) dX12_cheaper_134 (by decide) ?_
      refine pv_iadd (pc := 135) dX12_cheaper_135 ?_
      refine pv_topv2 (y := Int32.ofNat (w ++ [1]).length) (by rw [List.length_append, List.length_singleton]; exact i_inc _) ?_
      refine pv_iload_2 (pc := 136) dX12_cheaper_136 ?_
      refine pv_iload_7 (pc := 137) dX12_cheaper_137 ?_
      refine pv_if_ne (pc := 139) (tgt := 149) dX12_cheaper_139 (by decide) (fun _ => ?_) (fun q => absurd q (by decide))
      refine pv_iload_7 (pc := 149) dX12_cheaper_149 ?_
      refine pv_iconst (pc := 151) (v := 1) dX12_cheaper_151 (by decide) ?_
      refine pv_icmp_ne (pc := 152) (tgt := 162) dX12_cheaper_152 (by decide) (fun q => absurd q (by decide)) (fun _ => ?_)
      refine pv_aload_0 (pc := 155) dX12_cheaper_155 ?_
      refine pv_getI (pc := 156) dX12_cheaper_156 fg_X12_307_12 rfl (by decide) (sx_61 hT) ?_
      refine pv_goto (pc := 159) (tgt := 166) dX12_cheaper_159 (by decide) ?_
      refine pv_iadd (pc := 166) dX12_cheaper_166 ?_
      refine pv_topv2 (y := so + y) (congrArg (fun r => so + r) hy0) ?_
      refine pv_callVq (pc := 167) dX12_cheaper_167 mgX12_cheaper lv_X12_313_12 (by decide) (sx_61 hT) (by omega) (ih (d - 1) (w ++ [1]) (so + y) (by rw [List.length_append, List.length_singleton]; omega) (by omega) _ _ (s_stepP 1 p q) (s_stepQ 1 p q) _ (by rw [← hp, ← hq]; rfl) (by rw [← hp, ← hq]; rfl) ha hb hx0 hy0 hz0 (tr_app hw0 (fun j hj => by rw [m_at_app, if_neg (by omega), pv_u_app, if_neg (by rw [i_nat (by omega)]; omega)]) (by rw [m_at_app, if_neg (by omega), pv_u_app, if_pos ⟨rfl, (i_nat (by omega)).symm⟩])) (bs_at hb0 rfl rfl (fun _ => rfl))) rfl rfl (by decide) (fun v t I L Rf hq => ?_)
      obtain ⟨rfl, rfl, rfl, rfl, hf1, hb1⟩ := hq
      rw [List.length_append, List.length_singleton] at hf1
      have hF1 : fc w.length _ I := hF0.tr (((fc.rf.u 81 _ (Or.inl ⟨rfl, (by rw [i_nat (by omega)]; exact Nat.le_refl _)⟩)).at _).tr (hf1.mono (by omega)))
      have hg1 := hr0.tr hF1
      have hx1 : I 61 41 = x := (hg1 61 41 (by decide) (by decide) (by omega) (by omega)).trans hx
      have hy1 : I 61 42 = y := (hg1 61 42 (by decide) (by decide) (by omega) (by omega)).trans hy
      have hz1 : I 61 43 = z := (hg1 61 43 (by decide) (by decide) (by omega) (by omega)).trans hz
      have hw1 : tr_ok I 0 w := fun j v hv => by
        have hj : j < w.length := (List.getElem?_eq_some_iff.mp hv).1
        rw [Nat.zero_add, hF1 81 j (by decide) (by decide) (by omega) (by omega), ← hwr j v hv, Nat.zero_add]
      refine pv_aload_0 (pc := 170) dX12_cheaper_170 ?_
      refine pv_lload_3 (pc := 171) dX12_cheaper_171 ?_
      refine pv_putL (pc := 172) dX12_cheaper_172 fl_X12_150_12 (fun q => by cases q) (by decide) (sx_61 hT) ?_
      refine pv_aload_0 (pc := 175) dX12_cheaper_175 ?_
      refine pv_lload_5 (pc := 176) dX12_cheaper_176 ?_
      refine pv_putL (pc := 178) dX12_cheaper_178 fl_X12_153_12 (fun q => by cases q) (by decide) (sx_61 hT) ?_
      refine pv_memL (L := L) (m_pq_back L _ _) ?_
      refine pv_iinc_7 (pc := 181) (v := 2) dX12_cheaper_181 (by decide) (by decide) rfl ?_
      refine pv_goto (pc := 184) (tgt := 112) dX12_cheaper_184 (by decide) ?_
      refine pv_iload_7 (pc := 112) dX12_cheaper_112 ?_
      refine pv_iconst (pc := 114) (v := 3) dX12_cheaper_114 (by decide) ?_
      refine pv_icmp_ge (pc := 115) (tgt := 187) dX12_cheaper_115 (by decide) (fun q => absurd q (by decide)) (fun _ => ?_)
      refine pv_aload_0 (pc := 118) dX12_cheaper_118 ?_
      refine pv_getR (pc := 119) dX12_cheaper_119 fg_X12_79_12 rfl (by decide) (sx_61 hT) (rx_61_37 hR) ?_
      refine pv_iload_1 (pc := 122) dX12_cheaper_122 ?_
      refine pv_iload_7 (pc := 123) dX12_cheaper_123 ?_
      refine pv_iastorej (pc := 125) dX12_cheaper_125 (by decide) (sx_81 hT) rfl (i_in (k := w.length) (by omega) (by decide)) ?_
      refine pv_aload_0 (pc := 126) dX12_cheaper_126 ?_
      refine pv_iload_7 (pc := 127) dX12_cheaper_127 ?_
      refine pv_callV0 (pc := 129) dX12_cheaper_129 mgX12_step lv_X12_286_12 (by decide) (sx_61 hT) (by omega) (c_X12_step hT hR (by decide) (by omega)) rfl rfl (by decide) ?_
      refine pv_aload_0 (pc := 132) dX12_cheaper_132 ?_
      refine pv_iload_1 (pc := 133) dX12_cheaper_133 ?_
      refine pv_iconst (pc := 134) (v := 1) dX12_cheaper_134 (by decide) ?_
      refine pv_iadd (pc := 135) dX12_cheaper_135 ?_
      refine pv_topv2 (y := Int32.ofNat (w ++ [2]).length) (by rw [List.length_append, List.length_singleton]; exact i_inc _) ?_
      refine pv_iload_2 (pc := 136) dX12_cheaper_136 ?_
      refine pv_iload_7 (pc := 137) dX12_cheaper_137 ?_
      refine pv_if_ne (pc := 139) (tgt := 149) dX12_cheaper_139 (by decide) (fun _ => ?_) (fun q => absurd q (by decide))
      refine pv_iload_7 (pc := 149) dX12_cheaper_149 ?_
      refine pv_iconst (pc := 151) (v := 1) dX12_cheaper_151 (by decide) ?_
      refine pv_icmp_ne (pc := 152) (tgt := 162) dX12_cheaper_152 (by decide) (fun _ => ?_) (fun q => absurd q (by decide))
      refine pv_aload_0 (pc := 162) dX12_cheaper_162 ?_
      refine pv_getI (pc := 163) dX12_cheaper_163 fg_X12_310_12 rfl (by decide) (sx_61 hT) ?_
      refine pv_iadd (pc := 166) dX12_cheaper_166 ?_
      refine pv_topv2 (y := so + z) (congrArg (fun r => so + r) hz1) ?_
      refine pv_callVq (pc := 167) dX12_cheaper_167 mgX12_cheaper lv_X12_313_12 (by decide) (sx_61 hT) (by omega) (ih (d - 1) (w ++ [2]) (so + z) (by rw [List.length_append, List.length_singleton]; omega) (by omega) _ _ (s_stepP 2 p q) (s_stepQ 2 p q) _ (by rw [← hp, ← hq]; rfl) (by rw [← hp, ← hq]; rfl) ha hb hx1 hy1 hz1 (tr_app hw1 (fun j hj => by rw [m_at_app, if_neg (by omega), pv_u_app, if_neg (by rw [i_nat (by omega)]; omega)]) (by rw [m_at_app, if_neg (by omega), pv_u_app, if_pos ⟨rfl, (i_nat (by omega)).symm⟩])) (bs_at hb1 rfl rfl (fun _ => rfl))) rfl rfl (by decide) (fun v t I L Rf hq => ?_)
      obtain ⟨rfl, rfl, rfl, rfl, hf2, hb2⟩ := hq
      rw [List.length_append, List.length_singleton] at hf2
      have hF2 : fc w.length _ I := hF1.tr (((fc.rf.u 81 _ (Or.inl ⟨rfl, (by rw [i_nat (by omega)]; exact Nat.le_refl _)⟩)).at _).tr (hf2.mono (by omega)))
      have hg2 := hr0.tr hF2
      have hx2 : I 61 41 = x := (hg2 61 41 (by decide) (by decide) (by omega) (by omega)).trans hx
      have hy2 : I 61 42 = y := (hg2 61 42 (by decide) (by decide) (by omega) (by omega)).trans hy
      have hz2 : I 61 43 = z := (hg2 61 43 (by decide) (by decide) (by omega) (by omega)).trans hz
      have hw2 : tr_ok I 0 w := fun j v hv => by
        have hj : j < w.length := (List.getElem?_eq_some_iff.mp hv).1
        rw [Nat.zero_add, hF2 81 j (by decide) (by decide) (by omega) (by omega), ← hwr j v hv, Nat.zero_add]
      refine pv_aload_0 (pc := 170) dX12_cheaper_170 ?_
      refine pv_lload_3 (pc := 171) dX12_cheaper_171 ?_
      refine pv_putL (pc := 172) dX12_cheaper_172 fl_X12_150_12 (fun q => by cases q) (by decide) (sx_61 hT) ?_
      refine pv_aload_0 (pc := 175) dX12_cheaper_175 ?_
      refine pv_lload_5 (pc := 176) dX12_cheaper_176 ?_
      refine pv_putL (pc := 178) dX12_cheaper_178 fl_X12_153_12 (fun q => by cases q) (by decide) (sx_61 hT) ?_
      refine pv_memL (L := L) (m_pq_back L _ _) ?_
      refine pv_iinc_7 (pc := 181) (v := 3) dX12_cheaper_181 (by decide) (by decide) rfl ?_
      refine pv_goto (pc := 184) (tgt := 112) dX12_cheaper_184 (by decide) ?_
      refine pv_iload_7 (pc := 112) dX12_cheaper_112 ?_
      refine pv_iconst (pc := 114) (v := 3) dX12_cheaper_114 (by decide) ?_
      refine pv_icmp_ge (pc := 115) (tgt := 187) dX12_cheaper_115 (by decide) (fun _ => ?_) (fun q => absurd q (by decide))
      refine pv_vret (pc := 187) dX12_cheaper_187 rfl ?_
      exact ⟨rfl, rfl, rfl, rfl, hr0.tr hF2, hb2⟩
    refine pv_mt mgX12_cheaper.2.2.2.2.2 [.ref 61, .int (Int32.ofNat w.length), .int so, .retAddr 0, .retAddr 0, .retAddr 0, .retAddr 0, .retAddr 0] rfl (Nat.le_of_ble_eq_true rfl) ?_
    refine pv_aload_0 (pc := 0) dX12_cheaper_0 ?_
    refine pv_getL (pc := 1) dX12_cheaper_1 fg_X12_150_12 (by decide) (sx_61 hT) ?_
    refine pv_aload_0 (pc := 4) dX12_cheaper_4 ?_
    refine pv_getL (pc := 5) dX12_cheaper_5 fg_X12_280_12 (by decide) (sx_61 hT) ?_
    refine pv_lcmp_ne (pc := 8) (tgt := 91) dX12_cheaper_8 dX12_cheaper_9 (by decide) (fun h8 => ?_) (fun h8 => ?_)
    · exact rest _ _ _ _ _ _ fc.rf (by
        have e : w_b1 a b w so p q bs = bs := by
          unfold w_b1
          first
            | (have f1 := h8; rw [hp, ha] at f1; rw [if_neg (fun r => f1 r.1)]; done)
            | (have f1 := h20; rw [hq, hb] at f1; rw [if_neg (fun r => f1 r.2)]; done)
            | (have f1 := h45; have f2 := h37; have f3 := h29
               split
               · rw [if_neg (fun r => by rcases (w_bet_iff hbs (by omega)).mp r with g | g | g; exact f3 g; exact f2 g; exact f1 g.1)]
               · rfl)
            | (have f1 := h53; have f2 := h37; have f3 := h29
               split
               · rw [if_neg (fun r => by rcases (w_bet_iff hbs (by omega)).mp r with g | g | g; exact f3 g; exact f2 g; exact f1 g.2)]
               · rfl)
        rw [e]; exact hbs)
    · refine pv_aload_0 (pc := 12) dX12_cheaper_12 ?_
      refine pv_getL (pc := 13) dX12_cheaper_13 fg_X12_153_12 (by decide) (sx_61 hT) ?_
      refine pv_aload_0 (pc := 16) dX12_cheaper_16 ?_
      refine pv_getL (pc := 17) dX12_cheaper_17 fg_X12_283_12 (by decide) (sx_61 hT) ?_
      refine pv_lcmp_ne (pc := 20) (tgt := 91) dX12_cheaper_20 dX12_cheaper_21 (by decide) (fun h20 => ?_) (fun h20 => ?_)
      · exact rest _ _ _ _ _ _ fc.rf (by
          have e : w_b1 a b w so p q bs = bs := by
            unfold w_b1
            first
              | (have f1 := h8; rw [hp, ha] at f1; rw [if_neg (fun r => f1 r.1)]; done)
              | (have f1 := h20; rw [hq, hb] at f1; rw [if_neg (fun r => f1 r.2)]; done)
              | (have f1 := h45; have f2 := h37; have f3 := h29
                 split
                 · rw [if_neg (fun r => by rcases (w_bet_iff hbs (by omega)).mp r with g | g | g; exact f3 g; exact f2 g; exact f1 g.1)]
                 · rfl)
              | (have f1 := h53; have f2 := h37; have f3 := h29
                 split
                 · rw [if_neg (fun r => by rcases (w_bet_iff hbs (by omega)).mp r with g | g | g; exact f3 g; exact f2 g; exact f1 g.2)]
                 · rfl)
          rw [e]; exact hbs)
      · refine pv_aload_0 (pc := 24) dX12_cheaper_24 ?_
        refine pv_getI (pc := 25) dX12_cheaper_25 fg_X12_298_12 rfl (by decide) (sx_61 hT) ?_
        refine pv_iconst (pc := 28) (v := (-1)) dX12_cheaper_28 (by decide) ?_
        refine pv_icmp_eq (pc := 29) (tgt := 56) dX12_cheaper_29 (by decide) (fun h29 => ?_) (fun h29 => ?_)
        · refine pv_aload_0 (pc := 56) dX12_cheaper_56 ?_
          refine pv_iload_1 (pc := 57) dX12_cheaper_57 ?_
          refine pv_putI (pc := 58) dX12_cheaper_58 fl_X12_298_12 (fun q => by cases q) ⟨rfl, rfl, rfl⟩ (by decide) (sx_61 hT) ?_
          refine pv_aload_0 (pc := 61) dX12_cheaper_61 ?_
          refine pv_iload_2 (pc := 62) dX12_cheaper_62 ?_
          refine pv_putI (pc := 63) dX12_cheaper_63 fl_X12_301_12 (fun q => by cases q) ⟨rfl, rfl, rfl⟩ (by decide) (sx_61 hT) ?_
          refine pv_iconst (pc := 66) (v := 0) dX12_cheaper_66 (by decide) ?_
          refine pv_istore_3 (pc := 67) dX12_cheaper_67 (by decide) rfl ?_
          refine pv_memI (m_cb_0 _).symm ?_
          have hbet : w_bet so w.length bs = true := (w_bet_iff hbs (by omega)).mpr (by
            first
              | exact Or.inl h29
              | exact Or.inr (Or.inl h37)
              | (have f1 := h45; exact Or.inr (Or.inr ⟨Classical.not_not.mp f1, h53⟩))
              | (have f1 := h45; exact Or.inr (Or.inr ⟨f1, h53⟩)))
          have hpq : p = a ∧ q = b := by
            have f1 := h8
            have f2 := h20
            rw [hp, ha] at f1
            rw [hq, hb] at f2
            exact ⟨f1, f2⟩
          refine l_cpb hT hR (by omega) (rest _ _ _ _ _ _ ((fc.rf.u 61 39 (by omega)).u 61 40 (by omega) |>.cb) ?_) w.length 0 (by omega)
          rw [w_b1, if_pos hpq, if_pos hbet]
          exact ⟨(show w.length ≤ 7 by omega), rfl, rfl, fun j v hv => by
            have hj : j < w.length := (List.getElem?_eq_some_iff.mp hv).1
            unfold m_cb
            rw [if_pos ⟨rfl, hj⟩, ← hw j v hv, Nat.zero_add]; rfl⟩
        · refine pv_iload_2 (pc := 32) dX12_cheaper_32 ?_
          refine pv_aload_0 (pc := 33) dX12_cheaper_33 ?_
          refine pv_getI (pc := 34) dX12_cheaper_34 fg_X12_301_12 rfl (by decide) (sx_61 hT) ?_
          refine pv_icmp_lt (pc := 37) (tgt := 56) dX12_cheaper_37 (by decide) (fun h37 => ?_) (fun h37 => ?_)
          · refine pv_aload_0 (pc := 56) dX12_cheaper_56 ?_
            refine pv_iload_1 (pc := 57) dX12_cheaper_57 ?_
            refine pv_putI (pc := 58) dX12_cheaper_58 fl_X12_298_12 (fun q => by cases q) ⟨rfl, rfl, rfl⟩ (by decide) (sx_61 hT) ?_
            refine pv_aload_0 (pc := 61) dX12_cheaper_61 ?_
            refine pv_iload_2 (pc := 62) dX12_cheaper_62 ?_
            refine pv_putI (pc := 63) dX12_cheaper_63 fl_X12_301_12 (fun q => by cases q) ⟨rfl, rfl, rfl⟩ (by decide) (sx_61 hT) ?_
            refine pv_iconst (pc := 66) (v := 0) dX12_cheaper_66 (by decide) ?_
            refine pv_istore_3 (pc := 67) dX12_cheaper_67 (by decide) rfl ?_
            refine pv_memI (m_cb_0 _).symm ?_
            have hbet : w_bet so w.length bs = true := (w_bet_iff hbs (by omega)).mpr (by
              first
                | exact Or.inl h29
                | exact Or.inr (Or.inl h37)
                | (have f1 := h45; exact Or.inr (Or.inr ⟨Classical.not_not.mp f1, h53⟩))
                | (have f1 := h45; exact Or.inr (Or.inr ⟨f1, h53⟩)))
            have hpq : p = a ∧ q = b := by
              have f1 := h8
              have f2 := h20
              rw [hp, ha] at f1
              rw [hq, hb] at f2
              exact ⟨f1, f2⟩
            refine l_cpb hT hR (by omega) (rest _ _ _ _ _ _ ((fc.rf.u 61 39 (by omega)).u 61 40 (by omega) |>.cb) ?_) w.length 0 (by omega)
            rw [w_b1, if_pos hpq, if_pos hbet]
            exact ⟨(show w.length ≤ 7 by omega), rfl, rfl, fun j v hv => by
              have hj : j < w.length := (List.getElem?_eq_some_iff.mp hv).1
              unfold m_cb
              rw [if_pos ⟨rfl, hj⟩, ← hw j v hv, Nat.zero_add]; rfl⟩
          · refine pv_iload_2 (pc := 40) dX12_cheaper_40 ?_
            refine pv_aload_0 (pc := 41) dX12_cheaper_41 ?_
            refine pv_getI (pc := 42) dX12_cheaper_42 fg_X12_301_12 rfl (by decide) (sx_61 hT) ?_
            refine pv_icmp_ne (pc := 45) (tgt := 91) dX12_cheaper_45 (by decide) (fun h45 => ?_) (fun h45 => ?_)
            · exact rest _ _ _ _ _ _ fc.rf (by
                have e : w_b1 a b w so p q bs = bs := by
                  unfold w_b1
                  first
                    | (have f1 := h8; rw [hp, ha] at f1; rw [if_neg (fun r => f1 r.1)]; done)
                    | (have f1 := h20; rw [hq, hb] at f1; rw [if_neg (fun r => f1 r.2)]; done)
                    | (have f1 := h45; have f2 := h37; have f3 := h29
                       split
                       · rw [if_neg (fun r => by rcases (w_bet_iff hbs (by omega)).mp r with g | g | g; exact f3 g; exact f2 g; exact f1 g.1)]
                       · rfl)
                    | (have f1 := h53; have f2 := h37; have f3 := h29
                       split
                       · rw [if_neg (fun r => by rcases (w_bet_iff hbs (by omega)).mp r with g | g | g; exact f3 g; exact f2 g; exact f1 g.2)]
                       · rfl)
                rw [e]; exact hbs)
            · refine pv_iload_1 (pc := 48) dX12_cheaper_48 ?_
              refine pv_aload_0 (pc := 49) dX12_cheaper_49 ?_
              refine pv_getI (pc := 50) dX12_cheaper_50 fg_X12_298_12 rfl (by decide) (sx_61 hT) ?_
              refine pv_icmp_ge (pc := 53) (tgt := 91) dX12_cheaper_53 (by decide) (fun h53 => ?_) (fun h53 => ?_)
              · exact rest _ _ _ _ _ _ fc.rf (by
                  have e : w_b1 a b w so p q bs = bs := by
                    unfold w_b1
                    first
                      | (have f1 := h8; rw [hp, ha] at f1; rw [if_neg (fun r => f1 r.1)]; done)
                      | (have f1 := h20; rw [hq, hb] at f1; rw [if_neg (fun r => f1 r.2)]; done)
                      | (have f1 := h45; have f2 := h37; have f3 := h29
                         split
                         · rw [if_neg (fun r => by rcases (w_bet_iff hbs (by omega)).mp r with g | g | g; exact f3 g; exact f2 g; exact f1 g.1)]
                         · rfl)
                      | (have f1 := h53; have f2 := h37; have f3 := h29
                         split
                         · rw [if_neg (fun r => by rcases (w_bet_iff hbs (by omega)).mp r with g | g | g; exact f3 g; exact f2 g; exact f1 g.2)]
                         · rfl)
                  rw [e]; exact hbs)
              · refine pv_aload_0 (pc := 56) dX12_cheaper_56 ?_
                refine pv_iload_1 (pc := 57) dX12_cheaper_57 ?_
                refine pv_putI (pc := 58) dX12_cheaper_58 fl_X12_298_12 (fun q => by cases q) ⟨rfl, rfl, rfl⟩ (by decide) (sx_61 hT) ?_
                refine pv_aload_0 (pc := 61) dX12_cheaper_61 ?_
                refine pv_iload_2 (pc := 62) dX12_cheaper_62 ?_
                refine pv_putI (pc := 63) dX12_cheaper_63 fl_X12_301_12 (fun q => by cases q) ⟨rfl, rfl, rfl⟩ (by decide) (sx_61 hT) ?_
                refine pv_iconst (pc := 66) (v := 0) dX12_cheaper_66 (by decide) ?_
                refine pv_istore_3 (pc := 67) dX12_cheaper_67 (by decide) rfl ?_
                refine pv_memI (m_cb_0 _).symm ?_
                have hbet : w_bet so w.length bs = true := (w_bet_iff hbs (by omega)).mpr (by
                  first
                    | exact Or.inl h29
                    | exact Or.inr (Or.inl h37)
                    | (have f1 := h45; exact Or.inr (Or.inr ⟨Classical.not_not.mp f1, h53⟩))
                    | (have f1 := h45; exact Or.inr (Or.inr ⟨f1, h53⟩)))
                have hpq : p = a ∧ q = b := by
                  have f1 := h8
                  have f2 := h20
                  rw [hp, ha] at f1
                  rw [hq, hb] at f2
                  exact ⟨f1, f2⟩
                refine l_cpb hT hR (by omega) (rest _ _ _ _ _ _ ((fc.rf.u 61 39 (by omega)).u 61 40 (by omega) |>.cb) ?_) w.length 0 (by omega)
                rw [w_b1, if_pos hpq, if_pos hbet]
                exact ⟨(show w.length ≤ 7 by omega), rfl, rfl, fun j v hv => by
                  have hj : j < w.length := (List.getElem?_eq_some_iff.mp hv).1
                  unfold m_cb
                  rw [if_pos ⟨rfl, hj⟩, ← hw j v hv, Nat.zero_add]; rfl⟩

def S_chpV (J : pv_I) (K : pv_L) (i : Int32) : BS → SR
  | none => S_ref J K 5 (.int (-5 - 10))
  | some b => if i < -1 ∨ ¬ i < Int32.ofNat b.1.length then S_ref J K 5 (.int (-5 - 10)) else if i = -1 then (.int b.2, J, K) else (.int (b.1.getD i.toNatClampNeg 0), J, K)
theorem S_chp_s (J : pv_I) (K : pv_L) (i : Int32) (b : List Int32 × Int32) : S_chpV J K i (some b) = if i < -1 ∨ ¬ i < Int32.ofNat b.1.length then S_ref J K 5 (.int (-5 - 10)) else if i = -1 then (.int b.2, J, K) else (.int (b.1.getD i.toNatClampNeg 0), J, K) := rfl
def s_cost (c : Int32) : Bool := decide (1 ≤ c) && decide (c ≤ 9)
def S_cheapest (J : pv_I) (K : pv_L) (a b : Int64) (x y z i : Int32) : SR := if s_num a b = true ∧ s_cost x = true ∧ s_cost y = true ∧ s_cost z = true then S_chpV J K i (w_chp a b x y z 7 [] 0 0 1 none) else S_ref J K 6 (.int (-6 - 10))
theorem bs_getD {I : pv_I} {b : List Int32 × Int32} (h : bs_ok I (some b)) {j : Nat} (hj : j < b.1.length) : I 82 j = b.1.getD j 0 := by
  have e := h.2.2.2 j (b.1[j]) (List.getElem?_eq_getElem hj)
  rw [e, List.getD_eq_getElem?_getD, List.getElem?_eq_getElem hj]; rfl
theorem bs_none {I : pv_I} {bs : BS} (h : bs_ok I bs) (h1 : I 61 39 = -1) : bs = none := by
  cases bs with
  | none => rfl
  | some b =>
    have e := h.2.1
    have l := h.1
    rw [h1, ← Int32.toInt_inj, i_of (by omega), show (-1 : Int32).toInt = -1 by decide] at e
    omega
theorem bs_some {I : pv_I} {bs : BS} (h : bs_ok I bs) (h1 : ¬ I 61 39 = -1) : ∃ b, bs = some b := by
  cases bs with
  | none => exact absurd h h1
  | some b => exact ⟨b, rfl⟩
set_option maxRecDepth 100000 in
set_option maxHeartbeats 4000000 in
theorem c_X12_isCost {G : pv_G} {d : Nat} {c : Int32} {t : pv_T} {I : pv_I} {L : pv_L} {Rf : pv_R} : pv_Mt G mX12_isCost d 0 0 [.ref 61, .int c] t I L Rf (pv_is (some (.int (pv_b (s_cost c)))) t I L Rf) := by
  refine pv_mt mgX12_isCost.2.2.2.2.2 [.ref 61, .int c] rfl (Nat.le_of_ble_eq_true rfl) ?_
  refine pv_iload_1 (pc := 0) dX12_isCost_0 ?_
  refine pv_iconst (pc := 1) (v := 1) dX12_isCost_1 (by decide) ?_
  refine pv_icmp_lt (pc := 2) (tgt := 15) dX12_isCost_2 (by decide) (fun h2 => ?_) (fun h2 => ?_)
  · refine pv_iconst (pc := 15) (v := 0) dX12_isCost_15 (by decide) ?_
    refine pv_iret (pc := 16) dX12_isCost_16 rfl rfl ?_
    refine ⟨congrArg (fun z => some (Value.int z)) ?_, rfl, rfl, rfl, rfl⟩
    unfold s_cost
    simp only [i_lt, i_le, (show (1 : Int32).toInt = 1 from by decide), (show (9 : Int32).toInt = 9 from by decide)] at *
    first
      | (rw [decide_eq_false (by omega : ¬ 1 ≤ c.toInt)]; rfl)
      | (rw [decide_eq_false (by omega : ¬ c.toInt ≤ 9), Bool.and_false]; rfl)
      | (rw [decide_eq_true (by omega : 1 ≤ c.toInt), decide_eq_true (by omega : c.toInt ≤ 9)]; rfl)
  · refine pv_iload_1 (pc := 5) dX12_isCost_5 ?_
    refine pv_bipush (pc := 6) (v := 9) dX12_isCost_6 (by decide) ?_
    refine pv_icmp_gt (pc := 8) (tgt := 15) dX12_isCost_8 (by decide) (fun h8 => ?_) (fun h8 => ?_)
    · refine pv_iconst (pc := 15) (v := 0) dX12_isCost_15 (by decide) ?_
      refine pv_iret (pc := 16) dX12_isCost_16 rfl rfl ?_
      refine ⟨congrArg (fun z => some (Value.int z)) ?_, rfl, rfl, rfl, rfl⟩
      unfold s_cost
      simp only [i_lt, i_le, (show (1 : Int32).toInt = 1 from by decide), (show (9 : Int32).toInt = 9 from by decide)] at *
      first
        | (rw [decide_eq_false (by omega : ¬ 1 ≤ c.toInt)]; rfl)
        | (rw [decide_eq_false (by omega : ¬ c.toInt ≤ 9), Bool.and_false]; rfl)
        | (rw [decide_eq_true (by omega : 1 ≤ c.toInt), decide_eq_true (by omega : c.toInt ≤ 9)]; rfl)
    · refine pv_iconst (pc := 11) (v := 1) dX12_isCost_11 (by decide) ?_
      refine pv_goto (pc := 12) (tgt := 16) dX12_isCost_12 (by decide) ?_
      refine pv_iret (pc := 16) dX12_isCost_16 rfl rfl ?_
      refine ⟨congrArg (fun z => some (Value.int z)) ?_, rfl, rfl, rfl, rfl⟩
      unfold s_cost
      simp only [i_lt, i_le, (show (1 : Int32).toInt = 1 from by decide), (show (9 : Int32).toInt = 9 from by decide)] at *
      first
        | (rw [decide_eq_false (by omega : ¬ 1 ≤ c.toInt)]; rfl)
        | (rw [decide_eq_false (by omega : ¬ c.toInt ≤ 9), Bool.and_false]; rfl)
        | (rw [decide_eq_true (by omega : 1 ≤ c.toInt), decide_eq_true (by omega : c.toInt ≤ 9)]; rfl)

set_option maxRecDepth 100000 in
set_option maxHeartbeats 4000000 in
theorem c_X12_cheapest {G : pv_G} {d : Nat} {J : pv_I} {K : pv_L} {a b : Int64} {x y z i : Int32} {t : pv_T} {I0 : pv_I} {L0 : pv_L} {Rf : pv_R} (hT : sh_ok t) (hR : rf_ok Rf) (hW : WF J K) (hM : RM J K I0 L0) (hd16 : 16 ≤ d) : pv_Mt G mX12_cheapest d 0 0 [.ref 61, .long a, .long b, .int x, .int y, .int z, .int i] t I0 L0 Rf (qM (S_cheapest J K a b x y z i) t I0 L0 Rf) := by
  refine pv_mt mgX12_cheapest.2.2.2.2.2 [.ref 61, .long a, .retAddr 0, .long b, .retAddr 0, .int x, .int y, .int z, .int i] rfl (Nat.le_of_ble_eq_true rfl) ?_
  have hd : 6 ≤ d := by omega
  obtain ⟨⟨m0, m1, m2, m3, m4, m5, m6, m7, m8⟩, mf, mst, mh, mr, mt, mc, mi⟩ := id hM
  refine pv_aload_0 (pc := 0) dX12_cheapest_0 ?_
  refine pv_lload_1 (pc := 1) dX12_cheapest_1 ?_
  refine pv_lload_3 (pc := 2) dX12_cheapest_2 ?_
  refine pv_callV1 (pc := 3) dX12_cheapest_3 mgX12_isNumber lv_X12_143_12 (by decide) (sx_61 hT) (by omega) (c_X12_isNumber hT (by omega)) rfl rfl (by decide) ?_
  refine pv_if_eq (pc := 6) (tgt := 36) dX12_cheapest_6 (by decide) (fun h6 => ?_) (fun h6 => ?_)
  · refine pv_aload_0 (pc := 36) dX12_cheapest_36 ?_
    refine pv_bipush (pc := 37) (v := (-6)) dX12_cheapest_37 (by decide) ?_
    refine pv_callV1 (pc := 39) dX12_cheapest_39 mgX12_noTen lv_X12_292_12 (by decide) (sx_61 hT) (by omega) (c_X12_noTen (k := 6) hT hR (by decide) (by unfold vp_in; decide)) rfl rfl (by decide) ?_
    refine pv_iret (pc := 42) dX12_cheapest_42 rfl rfl ?_
    first
      | (have f1 := h6; refine qM.ref hM k_l6 ?_; unfold S_cheapest; rw [if_neg (by rw [(pv_b_0 _).mp f1]; exact fun r => absurd r.1 (by decide))]; done)
      | (have f1 := h15; refine qM.ref hM k_l6 ?_; unfold S_cheapest; rw [if_neg (by rw [(pv_b_0 _).mp f1]; exact fun r => absurd r.2.1 (by decide))]; done)
      | (have f1 := h24; refine qM.ref hM k_l6 ?_; unfold S_cheapest; rw [if_neg (by rw [(pv_b_0 _).mp f1]; exact fun r => absurd r.2.2.1 (by decide))]; done)
      | (have f1 := h33; refine qM.ref hM k_l6 ?_; unfold S_cheapest; rw [if_neg (by rw [(pv_b_0 _).mp f1]; exact fun r => absurd r.2.2.2 (by decide))]; done)
  · refine pv_aload_0 (pc := 9) dX12_cheapest_9 ?_
    refine pv_iload_5 (pc := 10) dX12_cheapest_10 ?_
    refine pv_callV1 (pc := 12) dX12_cheapest_12 mgX12_isCost lv_X12_317_12 (by decide) (sx_61 hT) (by omega) (c_X12_isCost ) rfl rfl (by decide) ?_
    refine pv_if_eq (pc := 15) (tgt := 36) dX12_cheapest_15 (by decide) (fun h15 => ?_) (fun h15 => ?_)
    · refine pv_aload_0 (pc := 36) dX12_cheapest_36 ?_
      refine pv_bipush (pc := 37) (v := (-6)) dX12_cheapest_37 (by decide) ?_
      refine pv_callV1 (pc := 39) dX12_cheapest_39 mgX12_noTen lv_X12_292_12 (by decide) (sx_61 hT) (by omega) (c_X12_noTen (k := 6) hT hR (by decide) (by unfold vp_in; decide)) rfl rfl (by decide) ?_
      refine pv_iret (pc := 42) dX12_cheapest_42 rfl rfl ?_
      first
        | (have f1 := h6; refine qM.ref hM k_l6 ?_; unfold S_cheapest; rw [if_neg (by rw [(pv_b_0 _).mp f1]; exact fun r => absurd r.1 (by decide))]; done)
        | (have f1 := h15; refine qM.ref hM k_l6 ?_; unfold S_cheapest; rw [if_neg (by rw [(pv_b_0 _).mp f1]; exact fun r => absurd r.2.1 (by decide))]; done)
        | (have f1 := h24; refine qM.ref hM k_l6 ?_; unfold S_cheapest; rw [if_neg (by rw [(pv_b_0 _).mp f1]; exact fun r => absurd r.2.2.1 (by decide))]; done)
        | (have f1 := h33; refine qM.ref hM k_l6 ?_; unfold S_cheapest; rw [if_neg (by rw [(pv_b_0 _).mp f1]; exact fun r => absurd r.2.2.2 (by decide))]; done)
    · refine pv_aload_0 (pc := 18) dX12_cheapest_18 ?_
      refine pv_iload_6 (pc := 19) dX12_cheapest_19 ?_
      refine pv_callV1 (pc := 21) dX12_cheapest_21 mgX12_isCost lv_X12_317_12 (by decide) (sx_61 hT) (by omega) (c_X12_isCost ) rfl rfl (by decide) ?_
      refine pv_if_eq (pc := 24) (tgt := 36) dX12_cheapest_24 (by decide) (fun h24 => ?_) (fun h24 => ?_)
      · refine pv_aload_0 (pc := 36) dX12_cheapest_36 ?_
        refine pv_bipush (pc := 37) (v := (-6)) dX12_cheapest_37 (by decide) ?_
        refine pv_callV1 (pc := 39) dX12_cheapest_39 mgX12_noTen lv_X12_292_12 (by decide) (sx_61 hT) (by omega) (c_X12_noTen (k := 6) hT hR (by decide) (by unfold vp_in; decide)) rfl rfl (by decide) ?_
        refine pv_iret (pc := 42) dX12_cheapest_42 rfl rfl ?_
        first
          | (have f1 := h6; refine qM.ref hM k_l6 ?_; unfold S_cheapest; rw [if_neg (by rw [(pv_b_0 _).mp f1]; exact fun r => absurd r.1 (by decide))]; done)
          | (have f1 := h15; refine qM.ref hM k_l6 ?_; unfold S_cheapest; rw [if_neg (by rw [(pv_b_0 _).mp f1]; exact fun r => absurd r.2.1 (by decide))]; done)
          | (have f1 := h24; refine qM.ref hM k_l6 ?_; unfold S_cheapest; rw [if_neg (by rw [(pv_b_0 _).mp f1]; exact fun r => absurd r.2.2.1 (by decide))]; done)
          | (have f1 := h33; refine qM.ref hM k_l6 ?_; unfold S_cheapest; rw [if_neg (by rw [(pv_b_0 _).mp f1]; exact fun r => absurd r.2.2.2 (by decide))]; done)
      · refine pv_aload_0 (pc := 27) dX12_cheapest_27 ?_
        refine pv_iload_7 (pc := 28) dX12_cheapest_28 ?_
        refine pv_callV1 (pc := 30) dX12_cheapest_30 mgX12_isCost lv_X12_317_12 (by decide) (sx_61 hT) (by omega) (c_X12_isCost ) rfl rfl (by decide) ?_
        refine pv_if_ne (pc := 33) (tgt := 43) dX12_cheapest_33 (by decide) (fun h33 => ?_) (fun h33 => ?_)
        · refine pv_aload_0 (pc := 43) dX12_cheapest_43 ?_
          refine pv_lload_1 (pc := 44) dX12_cheapest_44 ?_
          refine pv_putL (pc := 45) dX12_cheapest_45 fl_X12_280_12 (fun q => by cases q) (by decide) (sx_61 hT) ?_
          refine pv_aload_0 (pc := 48) dX12_cheapest_48 ?_
          refine pv_lload_3 (pc := 49) dX12_cheapest_49 ?_
          refine pv_putL (pc := 50) dX12_cheapest_50 fl_X12_283_12 (fun q => by cases q) (by decide) (sx_61 hT) ?_
          refine pv_aload_0 (pc := 53) dX12_cheapest_53 ?_
          refine pv_iload_5 (pc := 54) dX12_cheapest_54 ?_
          refine pv_putI (pc := 56) dX12_cheapest_56 fl_X12_304_12 (fun q => by cases q) ⟨rfl, rfl, rfl⟩ (by decide) (sx_61 hT) ?_
          refine pv_aload_0 (pc := 59) dX12_cheapest_59 ?_
          refine pv_iload_6 (pc := 60) dX12_cheapest_60 ?_
          refine pv_putI (pc := 62) dX12_cheapest_62 fl_X12_307_12 (fun q => by cases q) ⟨rfl, rfl, rfl⟩ (by decide) (sx_61 hT) ?_
          refine pv_aload_0 (pc := 65) dX12_cheapest_65 ?_
          refine pv_iload_7 (pc := 66) dX12_cheapest_66 ?_
          refine pv_putI (pc := 68) dX12_cheapest_68 fl_X12_310_12 (fun q => by cases q) ⟨rfl, rfl, rfl⟩ (by decide) (sx_61 hT) ?_
          refine pv_aload_0 (pc := 71) dX12_cheapest_71 ?_
          refine pv_iconst (pc := 72) (v := (-1)) dX12_cheapest_72 (by decide) ?_
          refine pv_putI (pc := 73) dX12_cheapest_73 fl_X12_298_12 (fun q => by cases q) ⟨rfl, rfl, rfl⟩ (by decide) (sx_61 hT) ?_
          refine pv_aload_0 (pc := 76) dX12_cheapest_76 ?_
          refine pv_callV0 (pc := 77) dX12_cheapest_77 mgX12_zero lv_X12_295_12 (by decide) (sx_61 hT) (by omega) (c_X12_zero hT) rfl rfl (by decide) ?_
          refine pv_aload_0 (pc := 80) dX12_cheapest_80 ?_
          refine pv_iconst (pc := 81) (v := 0) dX12_cheapest_81 (by decide) ?_
          refine pv_iconst (pc := 82) (v := 0) dX12_cheapest_82 (by decide) ?_
          refine pv_callVq (pc := 83) dX12_cheapest_83 mgX12_cheaper lv_X12_313_12 (by decide) (sx_61 hT) (by omega) (l_chp (a := a) (b := b) (x := x) (y := y) (z := z) hT hR 7 (d - 1) [] 0 rfl (by omega) _ _ 0 1 none rfl rfl rfl rfl rfl rfl rfl (fun j v hv => by cases hv) rfl) rfl rfl (by decide) (fun v t I L Rf hq => ?_)
          obtain ⟨rfl, rfl, rfl, rfl, hf, hb⟩ := hq
          generalize hB : w_chp a b x y z 7 [] 0 0 1 none = B at hb
          have hk := (((((((kS.rf (I := I0) (L := L0)).uL 61 45 a (by decide)).uL 61 46 b (by decide)).uI 61 41 x (by decide)).uI 61 42 y (by decide)).uI 61 43 z (by decide)).uI 61 39 (-1) (by decide)).pq 0 1
          have hk1 := hk.tr hf.kS
          have hN : s_num a b = true ∧ s_cost x = true ∧ s_cost y = true ∧ s_cost z = true := ⟨(pv_b_n0 _).mp h6, (pv_b_n0 _).mp h15, (pv_b_n0 _).mp h24, (pv_b_n0 _).mp h33⟩
          have hS : S_cheapest J K a b x y z i = S_chpV J K i B := by unfold S_cheapest; rw [if_pos hN, hB]
          rw [hS]
          refine pv_aload_0 (pc := 86) dX12_cheapest_86 ?_
          refine pv_getI (pc := 87) dX12_cheapest_87 fg_X12_298_12 rfl (by decide) (sx_61 hT) ?_
          refine pv_iconst (pc := 90) (v := (-1)) dX12_cheapest_90 (by decide) ?_
          refine pv_icmp_eq (pc := 91) (tgt := 109) dX12_cheapest_91 (by decide) (fun h91 => ?_) (fun h91 => ?_)
          · refine pv_aload_0 (pc := 109) dX12_cheapest_109 ?_
            refine pv_bipush (pc := 110) (v := (-5)) dX12_cheapest_110 (by decide) ?_
            refine pv_callV1 (pc := 112) dX12_cheapest_112 mgX12_noTen lv_X12_292_12 (by decide) (sx_61 hT) (by omega) (c_X12_noTen (k := 5) hT hR (by decide) (by unfold vp_in; decide)) rfl rfl (by decide) ?_
            refine pv_iret (pc := 115) dX12_cheapest_115 rfl rfl ?_
            first
              | (have f1 : I 61 39 = -1 := h91
                 rw [bs_none hb f1]
                 exact qM.scrref hM hk1 k_lt5b rfl)
              | (have f0 := h91
                 obtain ⟨bb, rfl⟩ := bs_some hb f0
                 refine qM.scrref hM hk1 k_lt5b ?_
                 rw [S_chp_s]
                 have f1 := h97
                 rw [if_pos (Or.inl f1)])
              | (have f0 := h91
                 obtain ⟨bb, rfl⟩ := bs_some hb f0
                 refine qM.scrref hM hk1 k_lt5b ?_
                 rw [S_chp_s]
                 have f1 := h106
                 rw [(bs_len hb).1] at f1
                 rw [if_pos (Or.inr f1)])
          · refine pv_iload_8 (pc := 94) dX12_cheapest_94 ?_
            refine pv_iconst (pc := 96) (v := (-1)) dX12_cheapest_96 (by decide) ?_
            refine pv_icmp_lt (pc := 97) (tgt := 109) dX12_cheapest_97 (by decide) (fun h97 => ?_) (fun h97 => ?_)
            · refine pv_aload_0 (pc := 109) dX12_cheapest_109 ?_
              refine pv_bipush (pc := 110) (v := (-5)) dX12_cheapest_110 (by decide) ?_
              refine pv_callV1 (pc := 112) dX12_cheapest_112 mgX12_noTen lv_X12_292_12 (by decide) (sx_61 hT) (by omega) (c_X12_noTen (k := 5) hT hR (by decide) (by unfold vp_in; decide)) rfl rfl (by decide) ?_
              refine pv_iret (pc := 115) dX12_cheapest_115 rfl rfl ?_
              first
                | (have f1 : I 61 39 = -1 := h91
                   rw [bs_none hb f1]
                   exact qM.scrref hM hk1 k_lt5b rfl)
                | (have f0 := h91
                   obtain ⟨bb, rfl⟩ := bs_some hb f0
                   refine qM.scrref hM hk1 k_lt5b ?_
                   rw [S_chp_s]
                   have f1 := h97
                   rw [if_pos (Or.inl f1)])
                | (have f0 := h91
                   obtain ⟨bb, rfl⟩ := bs_some hb f0
                   refine qM.scrref hM hk1 k_lt5b ?_
                   rw [S_chp_s]
                   have f1 := h106
                   rw [(bs_len hb).1] at f1
                   rw [if_pos (Or.inr f1)])
            · refine pv_iload_8 (pc := 100) dX12_cheapest_100 ?_
              refine pv_aload_0 (pc := 102) dX12_cheapest_102 ?_
              refine pv_getI (pc := 103) dX12_cheapest_103 fg_X12_298_12 rfl (by decide) (sx_61 hT) ?_
              refine pv_icmp_lt (pc := 106) (tgt := 116) dX12_cheapest_106 (by decide) (fun h106 => ?_) (fun h106 => ?_)
              · refine pv_iload_8 (pc := 116) dX12_cheapest_116 ?_
                refine pv_iconst (pc := 118) (v := (-1)) dX12_cheapest_118 (by decide) ?_
                refine pv_icmp_ne (pc := 119) (tgt := 129) dX12_cheapest_119 (by decide) (fun h119 => ?_) (fun h119 => ?_)
                · refine pv_aload_0 (pc := 129) dX12_cheapest_129 ?_
                  refine pv_getR (pc := 130) dX12_cheapest_130 fg_X12_82_12 rfl (by decide) (sx_61 hT) (rx_61_38 hR) ?_
                  refine pv_iload_8 (pc := 133) dX12_cheapest_133 ?_
                  refine pv_ialoadj (pc := 135) dX12_cheapest_135 (sx_82 hT) rfl (by obtain ⟨bb, rfl⟩ := bs_some hb h91; have f6 := h106; rw [(bs_len hb).1] at f6; have hl7 := (bs_len hb).2.2; have hx := i_ixl h97 h119 f6 (by omega); exact pv_in_of (by omega) (by omega)) ?_
                  refine pv_iret (pc := 136) dX12_cheapest_136 rfl rfl ?_
                  obtain ⟨bb, rfl⟩ := bs_some hb h91
                  have f6 := h106
                  rw [(bs_len hb).1] at f6
                  refine qM.scr hM hk1 ?_
                  rw [S_chp_s]
                  rw [if_neg (fun q => q.elim h97 (fun w => w f6))]
                  first
                    | (have f1 := h119; rw [if_pos f1, (bs_len hb).2.1]; done)
                    | (have f1 := h119
                       have hl7 := (bs_len hb).2.2
                       have hx := i_ixl h97 f1 f6 (by omega)
                       rw [if_neg f1, bs_getD hb hx.2.2])
                · refine pv_aload_0 (pc := 122) dX12_cheapest_122 ?_
                  refine pv_getI (pc := 123) dX12_cheapest_123 fg_X12_301_12 rfl (by decide) (sx_61 hT) ?_
                  refine pv_goto (pc := 126) (tgt := 136) dX12_cheapest_126 (by decide) ?_
                  refine pv_iret (pc := 136) dX12_cheapest_136 rfl rfl ?_
                  obtain ⟨bb, rfl⟩ := bs_some hb h91
                  have f6 := h106
                  rw [(bs_len hb).1] at f6
                  refine qM.scr hM hk1 ?_
                  rw [S_chp_s]
                  rw [if_neg (fun q => q.elim h97 (fun w => w f6))]
                  first
                    | (have f1 := h119; rw [if_pos f1, (bs_len hb).2.1]; done)
                    | (have f1 := h119
                       have hl7 := (bs_len hb).2.2
                       have hx := i_ixl h97 f1 f6 (by omega)
                       rw [if_neg f1, bs_getD hb hx.2.2])
              · refine pv_aload_0 (pc := 109) dX12_cheapest_109 ?_
                refine pv_bipush (pc := 110) (v := (-5)) dX12_cheapest_110 (by decide) ?_
                refine pv_callV1 (pc := 112) dX12_cheapest_112 mgX12_noTen lv_X12_292_12 (by decide) (sx_61 hT) (by omega) (c_X12_noTen (k := 5) hT hR (by decide) (by unfold vp_in; decide)) rfl rfl (by decide) ?_
                refine pv_iret (pc := 115) dX12_cheapest_115 rfl rfl ?_
                first
                  | (have f1 : I 61 39 = -1 := h91
                     rw [bs_none hb f1]
                     exact qM.scrref hM hk1 k_lt5b rfl)
                  | (have f0 := h91
                     obtain ⟨bb, rfl⟩ := bs_some hb f0
                     refine qM.scrref hM hk1 k_lt5b ?_
                     rw [S_chp_s]
                     have f1 := h97
                     rw [if_pos (Or.inl f1)])
                  | (have f0 := h91
                     obtain ⟨bb, rfl⟩ := bs_some hb f0
                     refine qM.scrref hM hk1 k_lt5b ?_
                     rw [S_chp_s]
                     have f1 := h106
                     rw [(bs_len hb).1] at f1
                     rw [if_pos (Or.inr f1)])
        · refine pv_aload_0 (pc := 36) dX12_cheapest_36 ?_
          refine pv_bipush (pc := 37) (v := (-6)) dX12_cheapest_37 (by decide) ?_
          refine pv_callV1 (pc := 39) dX12_cheapest_39 mgX12_noTen lv_X12_292_12 (by decide) (sx_61 hT) (by omega) (c_X12_noTen (k := 6) hT hR (by decide) (by unfold vp_in; decide)) rfl rfl (by decide) ?_
          refine pv_iret (pc := 42) dX12_cheapest_42 rfl rfl ?_
          first
            | (have f1 := h6; refine qM.ref hM k_l6 ?_; unfold S_cheapest; rw [if_neg (by rw [(pv_b_0 _).mp f1]; exact fun r => absurd r.1 (by decide))]; done)
            | (have f1 := h15; refine qM.ref hM k_l6 ?_; unfold S_cheapest; rw [if_neg (by rw [(pv_b_0 _).mp f1]; exact fun r => absurd r.2.1 (by decide))]; done)
            | (have f1 := h24; refine qM.ref hM k_l6 ?_; unfold S_cheapest; rw [if_neg (by rw [(pv_b_0 _).mp f1]; exact fun r => absurd r.2.2.1 (by decide))]; done)
            | (have f1 := h33; refine qM.ref hM k_l6 ?_; unfold S_cheapest; rw [if_neg (by rw [(pv_b_0 _).mp f1]; exact fun r => absurd r.2.2.2 (by decide))]; done)

