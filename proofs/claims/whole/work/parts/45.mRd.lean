/-! barns: the reader. c: the letters of the text, e: where it ends -/
def b_lit (c : Nat → Int32) (e : Nat) : List Int32 → Nat → Nat × Bool
  | [], r => (r, true)
  | x :: l, r => if r < e ∧ c r = x then b_lit c e l (r + 1) else (r, false)
def b_W : List Int32 := [102, 105, 103, 117, 114, 101, 32, 0, 99, 97, 108, 108, 32, 0, 115, 116, 97, 114, 116, 32, 0]
def b_w0 : List Int32 := [102, 105, 103, 117, 114, 101, 32]
def b_w1 : List Int32 := [99, 97, 108, 108, 32]
def b_w2 : List Int32 := [115, 116, 97, 114, 116, 32]
def b_f6 : List Int32 := [102, 105, 103, 117, 114, 101]
def b_wok (I : pv_I) : Prop := ∀ j x, b_W[j]? = some x → I 74 j = x
/-- the text that is read, and where one is in it -/
def b_tx (c : Nat → Int32) (e : Nat) (s : Int32) (I : pv_I) (L : pv_L) : Prop := vp_in s 8 ∧ e ≤ 160 ∧ I 61 23 = 160 * s ∧ I 61 25 = Int32.ofNat e ∧ (∀ j, j < 160 → (L 71 (160 * s.toNatClampNeg + j)).toInt32 = c j) ∧ b_wok I
theorem b_tx_cg {c : Nat → Int32} {e : Nat} {s : Int32} {I I1 : pv_I} {L L1 : pv_L} (h : b_tx c e s I L) (h1 : I1 61 23 = I 61 23) (h2 : I1 61 25 = I 61 25) (h3 : ∀ j, I1 74 j = I 74 j) (h4 : ∀ j, L1 71 j = L 71 j) : b_tx c e s I1 L1 :=
  ⟨h.1, h.2.1, h1.trans h.2.2.1, h2.trans h.2.2.2.1, fun j hj => by rw [h4]; exact h.2.2.2.2.1 j hj, fun j x hx => (h3 j).trans (h.2.2.2.2.2 j x hx)⟩
theorem b_lit_le (c : Nat → Int32) (e : Nat) : ∀ (l : List Int32) (r : Nat), r ≤ (b_lit c e l r).1 ∧ (b_lit c e l r).1 ≤ r + l.length ∧ (r ≤ e → (b_lit c e l r).1 ≤ e)
  | [], r => ⟨Nat.le_refl _, Nat.le_refl _, fun h => h⟩
  | x :: l, r => by
    have ih := b_lit_le c e l (r + 1)
    rw [b_lit]
    split
    · rename_i h
      rw [List.length_cons]
      exact ⟨by omega, by omega, fun _ => ih.2.2 (by omega)⟩
    · exact ⟨Nat.le_refl _, by omega, fun h => h⟩
theorem b_cell {c : Nat → Int32} {e : Nat} {s : Int32} {I : pv_I} {L : pv_L} (h : b_tx c e s I L) {r : Nat} (hr : r < 160) : vp_in (160 * s + Int32.ofNat r) 1280 ∧ (L 71 (160 * s + Int32.ofNat r).toNatClampNeg).toInt32 = c r := by
  have hi := i_in (k := r) (n := 160) hr (by decide)
  obtain ⟨h1, h2⟩ := ix_cell h.1 hi
  refine ⟨h2, ?_⟩
  rw [h1, i_nat (by omega)]
  exact h.2.2.2.2.1 r hr
/-- a word's letters stand from place k on, and 0 behind them -/
def b_seg (k : Nat) (l : List Int32) (z : Int32) : Prop := (∀ i x, l[i]? = some x → b_W[k + i]? = some x ∧ z < x) ∧ b_W[k + l.length]? = some z
theorem b_seg_t {k : Nat} {x z : Int32} {l : List Int32} (h : b_seg k (x :: l) z) : b_seg (k + 1) l z :=
  ⟨fun i y hy => by have := h.1 (i + 1) y hy; rw [show k + (i + 1) = k + 1 + i by omega] at this; exact this, by have := h.2; rw [List.length_cons, show k + (l.length + 1) = k + 1 + l.length by omega] at this; exact this⟩
theorem b_seg_k {k : Nat} {z : Int32} {l : List Int32} (h : b_seg k l z) : k + l.length < 21 := (List.getElem?_eq_some_iff.mp h.2).1
theorem b_seg_of {k : Nat} {z : Int32} {l : List Int32} (h : (l.all (fun x => decide (z < x))) = true) (h2 : b_W.drop k = l ++ z :: b_W.drop (k + l.length + 1)) : b_seg k l z := by
  refine ⟨fun i x hx => ⟨?_, ?_⟩, ?_⟩
  · rw [← List.getElem?_drop, h2, List.getElem?_append_left (List.getElem?_eq_some_iff.mp hx).1]; exact hx
  · exact of_decide_eq_true (List.all_eq_true.mp h x (List.mem_of_getElem? hx))
  · rw [← List.getElem?_drop, h2, List.getElem?_append_right (Nat.le_refl _), Nat.sub_self]; rfl
theorem b_s0 : b_seg 0 b_w0 0 := b_seg_of (by decide) (by decide)
theorem b_s1 : b_seg 8 b_w1 0 := b_seg_of (by decide) (by decide)
theorem b_s2 : b_seg 14 b_w2 0 := b_seg_of (by decide) (by decide)

set_option maxRecDepth 100000 in
set_option maxHeartbeats 4000000 in
theorem l_lit {G : pv_G} {d : Nat} {Q : pv_Q} {c : Nat → Int32} {e : Nat} {s l1 l2 l3 : Int32} {t : pv_T} {I : pv_I} {L : pv_L} {Rf : pv_R} (hT : sh_ok t) (hR : rf_ok Rf) (hx : b_tx c e s I L) : ∀ (l : List Int32) (k r : Nat), b_seg k l 0 → r ≤ e → (∀ k1 r1 : Nat, (b_lit c e l r).1 = r1 → ((b_lit c e l r).2 = true ↔ I 74 k1 = 0) → k1 < 21 → pv_V G mX12_word d 0 0 Q 0 0 74 [.ref 61, .int l1, .int l2, .int l3, .int (Int32.ofNat r1), .int (Int32.ofNat k1)] [] t I L Rf) →
    pv_V G mX12_word d 0 0 Q 0 0 23 [.ref 61, .int l1, .int l2, .int l3, .int (Int32.ofNat r), .int (Int32.ofNat k)] [] t I L Rf := by
  have he := hx.2.1
  intro l
  induction l with
  | nil =>
    intro k r hs hr hQ
    refine pv_aload_0 (pc := 23) dX12_word_23 ?_
    refine pv_getR (pc := 24) dX12_word_24 fg_X12_58_12 rfl (by decide) (sx_61 hT) (rx_61_21 hR) ?_
    refine pv_iload_5 (pc := 27) dX12_word_27 ?_
    refine pv_ialoadj (pc := 29) dX12_word_29 (sx_74 hT) rfl (i_in (k := k) (by have := b_seg_k hs; omega) (by decide)) ?_
    refine pv_topv2 (y := 0) (by rw [i_nat (by have := b_seg_k hs; omega)]; exact hx.2.2.2.2.2 _ _ hs.2) ?_
    refine pv_if_eq (pc := 30) (tgt := 74) dX12_word_30 (by decide) (fun h30 => ?_) (fun h30 => absurd h30 rfl)
    exact hQ k r rfl (iff_of_true rfl (hx.2.2.2.2.2 k 0 hs.2)) (by have := b_seg_k hs; rw [List.length_nil] at this; omega)
  | cons x l ih =>
    intro k r hs hr hQ
    have hk := hs.1 0 x rfl
    refine pv_aload_0 (pc := 23) dX12_word_23 ?_
    refine pv_getR (pc := 24) dX12_word_24 fg_X12_58_12 rfl (by decide) (sx_61 hT) (rx_61_21 hR) ?_
    refine pv_iload_5 (pc := 27) dX12_word_27 ?_
    refine pv_ialoadj (pc := 29) dX12_word_29 (sx_74 hT) rfl (i_in (k := k) (by have := b_seg_k hs; omega) (by decide)) ?_
    refine pv_topv2 (y := x) (by rw [i_nat (by have := b_seg_k hs; omega)]; exact hx.2.2.2.2.2 _ _ hk.1) ?_
    refine pv_if_eq (pc := 30) (tgt := 74) dX12_word_30 (by decide) (fun h30 => absurd h30 (fun q => by rw [q] at hk; exact absurd hk.2 (by decide))) (fun h30 => ?_)
    refine pv_iload_4 (pc := 33) dX12_word_33 ?_
    refine pv_aload_0 (pc := 35) dX12_word_35 ?_
    refine pv_getI (pc := 36) dX12_word_36 fg_X12_172_12 rfl (by decide) (sx_61 hT) ?_
    refine pv_icmp_ge (pc := 39) (tgt := 74) dX12_word_39 (by decide) (fun h39 => ?_) (fun h39 => ?_)
    · have e1 : b_lit c e (x :: l) r = (r, false) := by
        rw [b_lit]
        first
          | (have f1 : ¬ r < e := (by have g := h39; rw [hx.2.2.2.1, i_lt, i_of (by omega), i_of (by omega)] at g; omega); rw [if_neg (fun q => f1 q.1)]; done)
          | (have f1 : ¬ c r = x := h62; rw [if_neg (fun q => f1 q.2)]; done)
      rw [e1] at hQ
      exact hQ k r rfl (iff_of_false (fun q => absurd q (by decide)) (fun q => by rw [hx.2.2.2.2.2 k x hk.1] at q; rw [q] at hk; exact absurd hk.2 (by decide))) (by have := b_seg_k hs; omega)
    · refine pv_aload_0 (pc := 42) dX12_word_42 ?_
      refine pv_getR (pc := 43) dX12_word_43 fg_X12_48_12 rfl (by decide) (sx_61 hT) (rx_61_16 hR) ?_
      refine pv_aload_0 (pc := 46) dX12_word_46 ?_
      refine pv_getI (pc := 47) dX12_word_47 fg_X12_175_12 rfl (by decide) (sx_61 hT) ?_
      refine pv_iload_4 (pc := 50) dX12_word_50 ?_
      refine pv_iadd (pc := 52) dX12_word_52 ?_
      have hre : r < e := (by have g := h39; rw [hx.2.2.2.1, i_lt, i_of (by omega), i_of (by omega)] at g; omega)
      have hc := b_cell hx (r := r) (by omega)
      rw [hx.2.2.1]
      refine pv_laloadj (pc := 53) dX12_word_53 (by decide) (sx_71 hT) rfl hc.1 ?_
      refine pv_l2i (pc := 54) dX12_word_54 ?_
      refine pv_topv2 (y := c r) hc.2 ?_
      refine pv_aload_0 (pc := 55) dX12_word_55 ?_
      refine pv_getR (pc := 56) dX12_word_56 fg_X12_58_12 rfl (by decide) (sx_61 hT) (rx_61_21 hR) ?_
      refine pv_iload_5 (pc := 59) dX12_word_59 ?_
      refine pv_ialoadj (pc := 61) dX12_word_61 (sx_74 hT) rfl (i_in (k := k) (by have := b_seg_k hs; omega) (by decide)) ?_
      refine pv_topv2 (y := x) (by rw [i_nat (by have := b_seg_k hs; omega)]; exact hx.2.2.2.2.2 _ _ hk.1) ?_
      refine pv_icmp_ne (pc := 62) (tgt := 74) dX12_word_62 (by decide) (fun h62 => ?_) (fun h62 => ?_)
      · have e1 : b_lit c e (x :: l) r = (r, false) := by
          rw [b_lit]
          first
            | (have f1 : ¬ r < e := (by have g := h39; rw [hx.2.2.2.1, i_lt, i_of (by omega), i_of (by omega)] at g; omega); rw [if_neg (fun q => f1 q.1)]; done)
            | (have f1 : ¬ c r = x := h62; rw [if_neg (fun q => f1 q.2)]; done)
        rw [e1] at hQ
        exact hQ k r rfl (iff_of_false (fun q => absurd q (by decide)) (fun q => by rw [hx.2.2.2.2.2 k x hk.1] at q; rw [q] at hk; exact absurd hk.2 (by decide))) (by have := b_seg_k hs; omega)
      · refine pv_iinc_4 (pc := 65) (v := _ + 1) dX12_word_65 rfl (by decide) rfl ?_
        refine pv_iinc_5 (pc := 68) (v := _ + 1) dX12_word_68 rfl (by decide) rfl ?_
        refine pv_goto (pc := 71) (tgt := 23) dX12_word_71 (by decide) ?_
        rw [i_inc, i_inc]
        have e1 : b_lit c e (x :: l) r = b_lit c e l (r + 1) := by
          have f1 : c r = x := (by first | exact h62 | exact Classical.not_not.mp h62)
          rw [b_lit, if_pos ⟨hre, f1⟩]
        rw [e1] at hQ
        exact ih (k + 1) (r + 1) (b_seg_t hs) (by omega) hQ

set_option maxRecDepth 100000 in
set_option maxHeartbeats 4000000 in
theorem l_skw {G : pv_G} {d : Nat} {Q : pv_Q} {c : Nat → Int32} {e : Nat} {s l1 l2 l3 : Int32} {t : pv_T} {I : pv_I} {L : pv_L} {Rf : pv_R} (hT : sh_ok t) (hR : rf_ok Rf) (hx : b_tx c e s I L) {l4 l5 : Value} : ∀ (l : List Int32) (k : Nat), b_seg k l 0 → pv_V G mX12_word d 0 0 Q 0 0 120 [.ref 61, .int (Int32.ofNat (k + l.length)), .int l2, .int l3, l4, l5] [] t I L Rf →
    pv_V G mX12_word d 0 0 Q 0 0 105 [.ref 61, .int (Int32.ofNat k), .int l2, .int l3, l4, l5] [] t I L Rf := by
  intro l
  induction l with
  | nil =>
    intro k hs hQ
    refine pv_aload_0 (pc := 105) dX12_word_105 ?_
    refine pv_getR (pc := 106) dX12_word_106 fg_X12_58_12 rfl (by decide) (sx_61 hT) (rx_61_21 hR) ?_
    refine pv_iload_1 (pc := 109) dX12_word_109 ?_
    refine pv_ialoadj (pc := 110) dX12_word_110 (sx_74 hT) rfl (i_in (k := k) (by have := b_seg_k hs; omega) (by decide)) ?_
    refine pv_topv2 (y := 0) (by rw [i_nat (by have := b_seg_k hs; omega)]; exact hx.2.2.2.2.2 _ _ hs.2) ?_
    refine pv_if_eq (pc := 111) (tgt := 120) dX12_word_111 (by decide) (fun h111 => ?_) (fun h111 => absurd h111 rfl)
    exact hQ
  | cons x l ih =>
    intro k hs hQ
    have hk := hs.1 0 x rfl
    rw [List.length_cons] at hQ
    refine pv_aload_0 (pc := 105) dX12_word_105 ?_
    refine pv_getR (pc := 106) dX12_word_106 fg_X12_58_12 rfl (by decide) (sx_61 hT) (rx_61_21 hR) ?_
    refine pv_iload_1 (pc := 109) dX12_word_109 ?_
    refine pv_ialoadj (pc := 110) dX12_word_110 (sx_74 hT) rfl (i_in (k := k) (by have := b_seg_k hs; omega) (by decide)) ?_
    refine pv_topv2 (y := x) (by rw [i_nat (by have := b_seg_k hs; omega)]; exact hx.2.2.2.2.2 _ _ hk.1) ?_
    refine pv_if_eq (pc := 111) (tgt := 120) dX12_word_111 (by decide) (fun h111 => absurd h111 (fun q => by rw [q] at hk; exact absurd hk.2 (by decide))) (fun h111 => ?_)
    refine pv_iinc_1 (pc := 114) (v := _ + 1) dX12_word_114 rfl (by decide) rfl ?_
    refine pv_goto (pc := 117) (tgt := 105) dX12_word_117 (by decide) ?_
    rw [i_inc]
    exact ih (k + 1) (b_seg_t hs) (by rw [show k + 1 + l.length = k + (l.length + 1) by omega]; exact hQ)

def b_mx (f r : Nat) : Nat := if f < r then r else f
theorem b_mx_lt {f r : Nat} (h : f < r) : b_mx f r = r := if_pos h
theorem b_mx_ge {f r : Nat} (h : ¬ f < r) : b_mx f r = f := if_neg h
def b_word (c : Nat → Int32) (e r : Nat) : Option (Nat × Nat) := if (b_lit c e b_w0 r).2 = true then some (0, (b_lit c e b_w0 r).1) else if (b_lit c e b_w1 r).2 = true then some (1, (b_lit c e b_w1 r).1) else if (b_lit c e b_w2 r).2 = true then some (2, (b_lit c e b_w2 r).1) else none
def b_far (c : Nat → Int32) (e r : Nat) : Nat := b_mx (b_mx (b_mx r (b_lit c e b_w0 r).1) (b_lit c e b_w1 r).1) (b_lit c e b_w2 r).1
def q_word (c : Nat → Int32) (e r : Nat) (t : pv_T) (I : pv_I) (L : pv_L) (Rf : pv_R) : pv_Q := fun v t1 I1 L1 R1 => t1 = t ∧ L1 = L ∧ R1 = Rf ∧ ((∃ w r1, b_word c e r = some (w, r1) ∧ w < 3 ∧ v = some (.int (Int32.ofNat w)) ∧ I1 = pv_u I 61 24 (Int32.ofNat r1)) ∨ (b_word c e r = none ∧ v = some (.int (-1)) ∧ I1 = pv_u I 61 27 (Int32.ofNat (b_far c e r))))
set_option maxRecDepth 100000 in
set_option maxHeartbeats 4000000 in
theorem c_X12_word {G : pv_G} {d : Nat} {c : Nat → Int32} {e r : Nat} {s : Int32} {t : pv_T} {I : pv_I} {L : pv_L} {Rf : pv_R} (hT : sh_ok t) (hR : rf_ok Rf) (hx : b_tx c e s I L) (hp : I 61 24 = Int32.ofNat r) (hr : r ≤ e) : pv_Mt G mX12_word d 0 0 [.ref 61] t I L Rf (q_word c e r t I L Rf) := by
  have he := hx.2.1
  have rd3 : ∀ (l4 l5 : Value), (b_lit c e b_w0 r).2 = false → (b_lit c e b_w1 r).2 = false → (b_lit c e b_w2 r).2 = false → pv_V G mX12_word d 0 0 (q_word c e r t I L Rf) 0 0 9 [.ref 61, .int (Int32.ofNat 21), .int (Int32.ofNat (b_mx (b_mx (b_mx r (b_lit c e b_w0 r).1) (b_lit c e b_w1 r).1) (b_lit c e b_w2 r).1)), .int 3, l4, l5] [] t I L Rf := by
    intro l4 l5 n0 n1 n2
    refine pv_iload_3 (pc := 9) dX12_word_9 ?_
    refine pv_iconst (pc := 10) (v := 3) dX12_word_10 (by decide) ?_
    refine pv_icmp_ge (pc := 11) (tgt := 129) dX12_word_11 (by decide) (fun _ => ?_) (fun q => absurd q (by decide))
    refine pv_aload_0 (pc := 129) dX12_word_129 ?_
    refine pv_iload_2 (pc := 130) dX12_word_130 ?_
    refine pv_putI (pc := 131) dX12_word_131 fl_X12_166_12 (fun q => by cases q) ⟨rfl, rfl, rfl⟩ (by decide) (sx_61 hT) ?_
    refine pv_iconst (pc := 134) (v := (-1)) dX12_word_134 (by decide) ?_
    refine pv_iret (pc := 135) dX12_word_135 rfl rfl ?_
    exact ⟨rfl, rfl, rfl, Or.inr ⟨by unfold b_word; rw [if_neg (by rw [n0]; decide), if_neg (by rw [n1]; decide), if_neg (by rw [n2]; decide)], rfl, rfl⟩⟩
  have rd2 : ∀ (l4 l5 : Value), (b_lit c e b_w0 r).2 = false → (b_lit c e b_w1 r).2 = false → pv_V G mX12_word d 0 0 (q_word c e r t I L Rf) 0 0 9 [.ref 61, .int (Int32.ofNat 14), .int (Int32.ofNat (b_mx (b_mx r (b_lit c e b_w0 r).1) (b_lit c e b_w1 r).1)), .int 2, l4, l5] [] t I L Rf := by
    intro l4 l5 n0 n1
    refine pv_iload_3 (pc := 9) dX12_word_9 ?_
    refine pv_iconst (pc := 10) (v := 3) dX12_word_10 (by decide) ?_
    refine pv_icmp_ge (pc := 11) (tgt := 129) dX12_word_11 (by decide) (fun q => absurd q (by decide)) (fun _ => ?_)
    refine pv_aload_0 (pc := 14) dX12_word_14 ?_
    refine pv_getI (pc := 15) dX12_word_15 fg_X12_169_12 rfl (by decide) (sx_61 hT) ?_
    refine pv_istore_4 (pc := 18) dX12_word_18 (by decide) rfl ?_
    refine pv_iload_1 (pc := 20) dX12_word_20 ?_
    refine pv_istore_5 (pc := 21) dX12_word_21 (by decide) rfl ?_
    rw [hp]
    refine l_lit hT hR hx b_w2 14 r b_s2 hr (fun k1 r1 hr1 hiff hk1 => ?_)
    have hle := b_lit_le c e b_w2 r
    have hl0 := b_lit_le c e b_w0 r
    have hl1 := b_lit_le c e b_w1 r
    have hl2 := b_lit_le c e b_w2 r
    have hmx : ∀ a b : Nat, b_mx a b ≤ a + b := fun a b => by unfold b_mx; split <;> omega
    have hm0 := hmx r (b_lit c e b_w0 r).1
    have hm1 := hmx (b_mx r (b_lit c e b_w0 r).1) (b_lit c e b_w1 r).1
    subst hr1
    refine pv_aload_0 (pc := 74) dX12_word_74 ?_
    refine pv_getR (pc := 75) dX12_word_75 fg_X12_58_12 rfl (by decide) (sx_61 hT) (rx_61_21 hR) ?_
    refine pv_iload_5 (pc := 78) dX12_word_78 ?_
    refine pv_ialoadj (pc := 80) dX12_word_80 (sx_74 hT) rfl (i_in (k := k1) (by omega) (by decide)) ?_
    refine pv_topv2 (y := I 74 k1) (by rw [i_nat (by omega)]) ?_
    refine pv_if_ne (pc := 81) (tgt := 92) dX12_word_81 (by decide) (fun h81 => ?_) (fun h81 => ?_)
    · refine pv_iload_4 (pc := 92) dX12_word_92 ?_
      refine pv_iload_2 (pc := 94) dX12_word_94 ?_
      refine pv_icmp_le (pc := 95) (tgt := 103) dX12_word_95 (by decide) (fun h95 => ?_) (fun h95 => ?_)
      · refine pv_iload_2 (pc := 103) dX12_word_103 ?_
        refine pv_topv2 (y := Int32.ofNat (b_mx (b_mx (b_mx r (b_lit c e b_w0 r).1) (b_lit c e b_w1 r).1) (b_lit c e b_w2 r).1)) (by first | (have f3 := h95; rw [i_ltn (by omega) (by omega)] at f3; exact congrArg Int32.ofNat (b_mx_lt f3).symm) | (have f3 := h95; rw [i_ltn (by omega) (by omega)] at f3; exact congrArg Int32.ofNat (b_mx_ge f3).symm)) ?_
        refine pv_istore_2 (pc := 104) dX12_word_104 (by decide) rfl ?_
        have f2 : (b_lit c e b_w2 r).2 = false := by
          cases hq : (b_lit c e b_w2 r).2 with
          | false => rfl
          | true => exact absurd (hiff.mp hq) (by first | exact h81 | exact fun q => h81 (not_not_intro q))
        refine l_skw hT hR hx b_w2 14 b_s2 ?_
        refine pv_iinc_1 (pc := 120) (v := _ + 1) dX12_word_120 rfl (by decide) rfl ?_
        refine pv_iinc_3 (pc := 123) (v := 3) dX12_word_123 (by decide) (by decide) rfl ?_
        refine pv_goto (pc := 126) (tgt := 9) dX12_word_126 (by decide) ?_
        rw [i_inc]
        exact rd3 _ _ n0 n1 f2
      · refine pv_iload_4 (pc := 98) dX12_word_98 ?_
        refine pv_goto (pc := 100) (tgt := 104) dX12_word_100 (by decide) ?_
        refine pv_topv2 (y := Int32.ofNat (b_mx (b_mx (b_mx r (b_lit c e b_w0 r).1) (b_lit c e b_w1 r).1) (b_lit c e b_w2 r).1)) (by first | (have f3 := h95; rw [i_ltn (by omega) (by omega)] at f3; exact congrArg Int32.ofNat (b_mx_lt f3).symm) | (have f3 := h95; rw [i_ltn (by omega) (by omega)] at f3; exact congrArg Int32.ofNat (b_mx_ge f3).symm)) ?_
        refine pv_istore_2 (pc := 104) dX12_word_104 (by decide) rfl ?_
        have f2 : (b_lit c e b_w2 r).2 = false := by
          cases hq : (b_lit c e b_w2 r).2 with
          | false => rfl
          | true => exact absurd (hiff.mp hq) (by first | exact h81 | exact fun q => h81 (not_not_intro q))
        refine l_skw hT hR hx b_w2 14 b_s2 ?_
        refine pv_iinc_1 (pc := 120) (v := _ + 1) dX12_word_120 rfl (by decide) rfl ?_
        refine pv_iinc_3 (pc := 123) (v := 3) dX12_word_123 (by decide) (by decide) rfl ?_
        refine pv_goto (pc := 126) (tgt := 9) dX12_word_126 (by decide) ?_
        rw [i_inc]
        exact rd3 _ _ n0 n1 f2
    · refine pv_aload_0 (pc := 84) dX12_word_84 ?_
      refine pv_iload_4 (pc := 85) dX12_word_85 ?_
      refine pv_putI (pc := 87) dX12_word_87 fl_X12_169_12 (fun q => by cases q) ⟨rfl, rfl, rfl⟩ (by decide) (sx_61 hT) ?_
      refine pv_iload_3 (pc := 90) dX12_word_90 ?_
      refine pv_iret (pc := 91) dX12_word_91 rfl rfl ?_
      have f0 : I 74 k1 = 0 := (by first | exact h81 | exact Classical.not_not.mp h81)
      have f1 := hiff.mpr f0
      exact ⟨rfl, rfl, rfl, Or.inl ⟨2, _, (show b_word c e r = some (2, (b_lit c e b_w2 r).1) from by unfold b_word; rw [if_neg (by rw [n0]; decide), if_neg (by rw [n1]; decide), if_pos f1]), (by decide), rfl, rfl⟩⟩
  have rd1 : ∀ (l4 l5 : Value), (b_lit c e b_w0 r).2 = false → pv_V G mX12_word d 0 0 (q_word c e r t I L Rf) 0 0 9 [.ref 61, .int (Int32.ofNat 8), .int (Int32.ofNat (b_mx r (b_lit c e b_w0 r).1)), .int 1, l4, l5] [] t I L Rf := by
    intro l4 l5 n0
    refine pv_iload_3 (pc := 9) dX12_word_9 ?_
    refine pv_iconst (pc := 10) (v := 3) dX12_word_10 (by decide) ?_
    refine pv_icmp_ge (pc := 11) (tgt := 129) dX12_word_11 (by decide) (fun q => absurd q (by decide)) (fun _ => ?_)
    refine pv_aload_0 (pc := 14) dX12_word_14 ?_
    refine pv_getI (pc := 15) dX12_word_15 fg_X12_169_12 rfl (by decide) (sx_61 hT) ?_
    refine pv_istore_4 (pc := 18) dX12_word_18 (by decide) rfl ?_
    refine pv_iload_1 (pc := 20) dX12_word_20 ?_
    refine pv_istore_5 (pc := 21) dX12_word_21 (by decide) rfl ?_
    rw [hp]
    refine l_lit hT hR hx b_w1 8 r b_s1 hr (fun k1 r1 hr1 hiff hk1 => ?_)
    have hle := b_lit_le c e b_w1 r
    have hl0 := b_lit_le c e b_w0 r
    have hl1 := b_lit_le c e b_w1 r
    have hl2 := b_lit_le c e b_w2 r
    have hmx : ∀ a b : Nat, b_mx a b ≤ a + b := fun a b => by unfold b_mx; split <;> omega
    have hm0 := hmx r (b_lit c e b_w0 r).1
    have hm1 := hmx (b_mx r (b_lit c e b_w0 r).1) (b_lit c e b_w1 r).1
    subst hr1
    refine pv_aload_0 (pc := 74) dX12_word_74 ?_
    refine pv_getR (pc := 75) dX12_word_75 fg_X12_58_12 rfl (by decide) (sx_61 hT) (rx_61_21 hR) ?_
    refine pv_iload_5 (pc := 78) dX12_word_78 ?_
    refine pv_ialoadj (pc := 80) dX12_word_80 (sx_74 hT) rfl (i_in (k := k1) (by omega) (by decide)) ?_
    refine pv_topv2 (y := I 74 k1) (by rw [i_nat (by omega)]) ?_
    refine pv_if_ne (pc := 81) (tgt := 92) dX12_word_81 (by decide) (fun h81 => ?_) (fun h81 => ?_)
    · refine pv_iload_4 (pc := 92) dX12_word_92 ?_
      refine pv_iload_2 (pc := 94) dX12_word_94 ?_
      refine pv_icmp_le (pc := 95) (tgt := 103) dX12_word_95 (by decide) (fun h95 => ?_) (fun h95 => ?_)
      · refine pv_iload_2 (pc := 103) dX12_word_103 ?_
        refine pv_topv2 (y := Int32.ofNat (b_mx (b_mx r (b_lit c e b_w0 r).1) (b_lit c e b_w1 r).1)) (by first | (have f3 := h95; rw [i_ltn (by omega) (by omega)] at f3; exact congrArg Int32.ofNat (b_mx_lt f3).symm) | (have f3 := h95; rw [i_ltn (by omega) (by omega)] at f3; exact congrArg Int32.ofNat (b_mx_ge f3).symm)) ?_
        refine pv_istore_2 (pc := 104) dX12_word_104 (by decide) rfl ?_
        have f2 : (b_lit c e b_w1 r).2 = false := by
          cases hq : (b_lit c e b_w1 r).2 with
          | false => rfl
          | true => exact absurd (hiff.mp hq) (by first | exact h81 | exact fun q => h81 (not_not_intro q))
        refine l_skw hT hR hx b_w1 8 b_s1 ?_
        refine pv_iinc_1 (pc := 120) (v := _ + 1) dX12_word_120 rfl (by decide) rfl ?_
        refine pv_iinc_3 (pc := 123) (v := 2) dX12_word_123 (by decide) (by decide) rfl ?_
        refine pv_goto (pc := 126) (tgt := 9) dX12_word_126 (by decide) ?_
        rw [i_inc]
        exact rd2 _ _ n0 f2
      · refine pv_iload_4 (pc := 98) dX12_word_98 ?_
        refine pv_goto (pc := 100) (tgt := 104) dX12_word_100 (by decide) ?_
        refine pv_topv2 (y := Int32.ofNat (b_mx (b_mx r (b_lit c e b_w0 r).1) (b_lit c e b_w1 r).1)) (by first | (have f3 := h95; rw [i_ltn (by omega) (by omega)] at f3; exact congrArg Int32.ofNat (b_mx_lt f3).symm) | (have f3 := h95; rw [i_ltn (by omega) (by omega)] at f3; exact congrArg Int32.ofNat (b_mx_ge f3).symm)) ?_
        refine pv_istore_2 (pc := 104) dX12_word_104 (by decide) rfl ?_
        have f2 : (b_lit c e b_w1 r).2 = false := by
          cases hq : (b_lit c e b_w1 r).2 with
          | false => rfl
          | true => exact absurd (hiff.mp hq) (by first | exact h81 | exact fun q => h81 (not_not_intro q))
        refine l_skw hT hR hx b_w1 8 b_s1 ?_
        refine pv_iinc_1 (pc := 120) (v := _ + 1) dX12_word_120 rfl (by decide) rfl ?_
        refine pv_iinc_3 (pc := 123) (v := 2) dX12_word_123 (by decide) (by decide) rfl ?_
        refine pv_goto (pc := 126) (tgt := 9) dX12_word_126 (by decide) ?_
        rw [i_inc]
        exact rd2 _ _ n0 f2
    · refine pv_aload_0 (pc := 84) dX12_word_84 ?_
      refine pv_iload_4 (pc := 85) dX12_word_85 ?_
      refine pv_putI (pc := 87) dX12_word_87 fl_X12_169_12 (fun q => by cases q) ⟨rfl, rfl, rfl⟩ (by decide) (sx_61 hT) ?_
      refine pv_iload_3 (pc := 90) dX12_word_90 ?_
      refine pv_iret (pc := 91) dX12_word_91 rfl rfl ?_
      have f0 : I 74 k1 = 0 := (by first | exact h81 | exact Classical.not_not.mp h81)
      have f1 := hiff.mpr f0
      exact ⟨rfl, rfl, rfl, Or.inl ⟨1, _, (show b_word c e r = some (1, (b_lit c e b_w1 r).1) from by unfold b_word; rw [if_neg (by rw [n0]; decide), if_pos f1]), (by decide), rfl, rfl⟩⟩
  have rd0 : ∀ (l4 l5 : Value), True → pv_V G mX12_word d 0 0 (q_word c e r t I L Rf) 0 0 9 [.ref 61, .int 0, .int (Int32.ofNat (r)), .int 0, l4, l5] [] t I L Rf := by
    intro l4 l5 _
    refine pv_iload_3 (pc := 9) dX12_word_9 ?_
    refine pv_iconst (pc := 10) (v := 3) dX12_word_10 (by decide) ?_
    refine pv_icmp_ge (pc := 11) (tgt := 129) dX12_word_11 (by decide) (fun q => absurd q (by decide)) (fun _ => ?_)
    refine pv_aload_0 (pc := 14) dX12_word_14 ?_
    refine pv_getI (pc := 15) dX12_word_15 fg_X12_169_12 rfl (by decide) (sx_61 hT) ?_
    refine pv_istore_4 (pc := 18) dX12_word_18 (by decide) rfl ?_
    refine pv_iload_1 (pc := 20) dX12_word_20 ?_
    refine pv_istore_5 (pc := 21) dX12_word_21 (by decide) rfl ?_
    rw [hp]
    refine l_lit hT hR hx b_w0 0 r b_s0 hr (fun k1 r1 hr1 hiff hk1 => ?_)
    have hle := b_lit_le c e b_w0 r
    have hl0 := b_lit_le c e b_w0 r
    have hl1 := b_lit_le c e b_w1 r
    have hl2 := b_lit_le c e b_w2 r
    have hmx : ∀ a b : Nat, b_mx a b ≤ a + b := fun a b => by unfold b_mx; split <;> omega
    have hm0 := hmx r (b_lit c e b_w0 r).1
    have hm1 := hmx (b_mx r (b_lit c e b_w0 r).1) (b_lit c e b_w1 r).1
    subst hr1
    refine pv_aload_0 (pc := 74) dX12_word_74 ?_
    refine pv_getR (pc := 75) dX12_word_75 fg_X12_58_12 rfl (by decide) (sx_61 hT) (rx_61_21 hR) ?_
    refine pv_iload_5 (pc := 78) dX12_word_78 ?_
    refine pv_ialoadj (pc := 80) dX12_word_80 (sx_74 hT) rfl (i_in (k := k1) (by omega) (by decide)) ?_
    refine pv_topv2 (y := I 74 k1) (by rw [i_nat (by omega)]) ?_
    refine pv_if_ne (pc := 81) (tgt := 92) dX12_word_81 (by decide) (fun h81 => ?_) (fun h81 => ?_)
    · refine pv_iload_4 (pc := 92) dX12_word_92 ?_
      refine pv_iload_2 (pc := 94) dX12_word_94 ?_
      refine pv_icmp_le (pc := 95) (tgt := 103) dX12_word_95 (by decide) (fun h95 => ?_) (fun h95 => ?_)
      · refine pv_iload_2 (pc := 103) dX12_word_103 ?_
        refine pv_topv2 (y := Int32.ofNat (b_mx r (b_lit c e b_w0 r).1)) (by first | (have f3 := h95; rw [i_ltn (by omega) (by omega)] at f3; exact congrArg Int32.ofNat (b_mx_lt f3).symm) | (have f3 := h95; rw [i_ltn (by omega) (by omega)] at f3; exact congrArg Int32.ofNat (b_mx_ge f3).symm)) ?_
        refine pv_istore_2 (pc := 104) dX12_word_104 (by decide) rfl ?_
        have f2 : (b_lit c e b_w0 r).2 = false := by
          cases hq : (b_lit c e b_w0 r).2 with
          | false => rfl
          | true => exact absurd (hiff.mp hq) (by first | exact h81 | exact fun q => h81 (not_not_intro q))
        refine l_skw hT hR hx b_w0 0 b_s0 ?_
        refine pv_iinc_1 (pc := 120) (v := _ + 1) dX12_word_120 rfl (by decide) rfl ?_
        refine pv_iinc_3 (pc := 123) (v := 1) dX12_word_123 (by decide) (by decide) rfl ?_
        refine pv_goto (pc := 126) (tgt := 9) dX12_word_126 (by decide) ?_
        rw [i_inc]
        exact rd1 _ _  f2
      · refine pv_iload_4 (pc := 98) dX12_word_98 ?_
        refine pv_goto (pc := 100) (tgt := 104) dX12_word_100 (by decide) ?_
        refine pv_topv2 (y := Int32.ofNat (b_mx r (b_lit c e b_w0 r).1)) (by first | (have f3 := h95; rw [i_ltn (by omega) (by omega)] at f3; exact congrArg Int32.ofNat (b_mx_lt f3).symm) | (have f3 := h95; rw [i_ltn (by omega) (by omega)] at f3; exact congrArg Int32.ofNat (b_mx_ge f3).symm)) ?_
        refine pv_istore_2 (pc := 104) dX12_word_104 (by decide) rfl ?_
        have f2 : (b_lit c e b_w0 r).2 = false := by
          cases hq : (b_lit c e b_w0 r).2 with
          | false => rfl
          | true => exact absurd (hiff.mp hq) (by first | exact h81 | exact fun q => h81 (not_not_intro q))
        refine l_skw hT hR hx b_w0 0 b_s0 ?_
        refine pv_iinc_1 (pc := 120) (v := _ + 1) dX12_word_120 rfl (by decide) rfl ?_
        refine pv_iinc_3 (pc := 123) (v := 1) dX12_word_123 (by decide) (by decide) rfl ?_
        refine pv_goto (pc := 126) (tgt := 9) dX12_word_126 (by decide) ?_
        rw [i_inc]
        exact rd1 _ _  f2
    · refine pv_aload_0 (pc := 84) dX12_word_84 ?_
      refine pv_iload_4 (pc := 85) dX12_word_85 ?_
      refine pv_putI (pc := 87) dX12_word_87 fl_X12_169_12 (fun q => by cases q) ⟨rfl, rfl, rfl⟩ (by decide) (sx_61 hT) ?_
      refine pv_iload_3 (pc := 90) dX12_word_90 ?_
      refine pv_iret (pc := 91) dX12_word_91 rfl rfl ?_
      have f0 : I 74 k1 = 0 := (by first | exact h81 | exact Classical.not_not.mp h81)
      have f1 := hiff.mpr f0
      exact ⟨rfl, rfl, rfl, Or.inl ⟨0, _, (show b_word c e r = some (0, (b_lit c e b_w0 r).1) from by unfold b_word; rw [if_pos f1]), (by decide), rfl, rfl⟩⟩
  refine pv_mt mgX12_word.2.2.2.2.2 [.ref 61, .retAddr 0, .retAddr 0, .retAddr 0, .retAddr 0, .retAddr 0] rfl (Nat.le_of_ble_eq_true rfl) ?_
  refine pv_iconst (pc := 0) (v := 0) dX12_word_0 (by decide) ?_
  refine pv_istore_1 (pc := 1) dX12_word_1 (by decide) rfl ?_
  refine pv_aload_0 (pc := 2) dX12_word_2 ?_
  refine pv_getI (pc := 3) dX12_word_3 fg_X12_169_12 rfl (by decide) (sx_61 hT) ?_
  refine pv_istore_2 (pc := 6) dX12_word_6 (by decide) rfl ?_
  refine pv_iconst (pc := 7) (v := 0) dX12_word_7 (by decide) ?_
  refine pv_istore_3 (pc := 8) dX12_word_8 (by decide) rfl ?_
  rw [hp]
  exact rd0 _ _ trivial

