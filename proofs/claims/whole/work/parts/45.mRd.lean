/-! barns: the reader. c: the letters of the text, e: where it ends -/
def b_lit (c : Nat → Int32) (e : Nat) : List Int32 → Nat → Nat × Bool
  | [], r => (r, true)
  | x :: l, r => if r < e ∧ c r = x then b_lit c e l (r + 1) else (r, false)
def b_W : List Int32 := [102, 105, 103, 117, 114, 101, 32, 0, 99, 97, 108, 108, 32, 0, 115, 116, 97, 114, 116, 32, 0]
def b_w0 : List Int32 := [102, 105, 103, 117, 114, 101, 32]
def b_w1 : List Int32 := [99, 97, 108, 108, 32]
def b_w2 : List Int32 := [115, 116, 97, 114, 116, 32]
def b_f6 : List Int32 := [102, 105, 103, 117, 114, 101]
def b_wok (I : pv_I) : Prop := ∀ j x, b_W[j]? = some x → I 74 j = x
/-- the text that is read, and where one is in it -/
def b_tx (c : Nat → Int32) (e : Nat) (s : Int32) (I : pv_I) (L : pv_L) : Prop := vp_in s 8 ∧ e ≤ 160 ∧ I 61 23 = 160 * s ∧ I 61 25 = Int32.ofNat e ∧ (∀ j, j < 160 → (L 71 (160 * s.toNatClampNeg + j)).toInt32 = c j) ∧ b_wok I
theorem b_tx_cg {c : Nat → Int32} {e : Nat} {s : Int32} {I I1 : pv_I} {L L1 : pv_L} (h : b_tx c e s I L) (h1 : I1 61 23 = I 61 23) (h2 : I1 61 25 = I 61 25) (h3 : ∀ j, I1 74 j = I 74 j) (h4 : ∀ j, L1 71 j = L 71 j) : b_tx c e s I1 L1 :=
  ⟨h.1, h.2.1, h1.trans h.2.2.1, h2.trans h.2.2.2.1, fun j hj => by rw [h4]; exact h.2.2.2.2.1 j hj, fun j x hx => (h3 j).trans (h.2.2.2.2.2 j x hx)⟩
theorem b_lit_le (c : Nat → Int32) (e : Nat) : ∀ (l : List Int32) (r : Nat), r ≤ (b_lit c e l r).1 ∧ (b_lit c e l r).1 ≤ r + l.length ∧ (r ≤ e → (b_lit c e l r).1 ≤ e)
  | [], r => ⟨Nat.le_refl _, Nat.le_refl _, fun h => h⟩
  | x :: l, r => by
    have ih := b_lit_le c e l (r + 1)
    rw [b_lit]
    split
    · rename_i h
      rw [List.length_cons]
      exact ⟨by omega, by omega, fun _ => ih.2.2 (by omega)⟩
    · exact ⟨Nat.le_refl _, by omega, fun h => h⟩
theorem b_cell {c : Nat → Int32} {e : Nat} {s : Int32} {I : pv_I} {L : pv_L} (h : b_tx c e s I L) {r : Nat} (hr : r < 160) : vp_in (160 * s + Int32.ofNat r) 1280 ∧ (L 71 (160 * s + Int32.ofNat r).toNatClampNeg).toInt32 = c r := by
  have hi := i_in (k := r) (n := 160) hr (by decide)
  obtain ⟨h1, h2⟩ := ix_cell h.1 hi
  refine ⟨h2, ?_⟩
  rw [h1, i_nat (by omega)]
  exact h.2.2.2.2.1 r hr
/-- a word's letters stand from place k on, and 0 behind them -/
def b_seg (k : Nat) (l : List Int32) (z : Int32) : Prop := (∀ i x, l[i]? = some x → b_W[k + i]? = some x ∧ z < x) ∧ b_W[k + l.length]? = some z
theorem b_seg_t {k : Nat} {x z : Int32} {l : List Int32} (h : b_seg k (x :: l) z) : b_seg (k + 1) l z :=
  ⟨fun i y hy => by have := h.1 (i + 1) y hy; rw [show k + (i + 1) = k + 1 + i by omega] at this; exact this, by have := h.2; rw [List.length_cons, show k + (l.length + 1) = k + 1 + l.length by omega] at this; exact this⟩
theorem b_seg_k {k : Nat} {z : Int32} {l : List Int32} (h : b_seg k l z) : k + l.length < 21 := (List.getElem?_eq_some_iff.mp h.2).1
theorem b_seg_of {k : Nat} {z : Int32} {l : List Int32} (h : (l.all (fun x => decide (z < x))) = true) (h2 : b_W.drop k = l ++ z :: b_W.drop (k + l.length + 1)) : b_seg k l z := by
  refine ⟨fun i x hx => ⟨?_, ?_⟩, ?_⟩
  · rw [← List.getElem?_drop, h2, List.getElem?_append_left (List.getElem?_eq_some_iff.mp hx).1]; exact hx
  · exact of_decide_eq_true (List.all_eq_true.mp h x (List.mem_of_getElem? hx))
  · rw [← List.getElem?_drop, h2, List.getElem?_append_right (Nat.le_refl _), Nat.sub_self]; rfl
theorem b_s0 : b_seg 0 b_w0 0 := b_seg_of (by decide) (by decide)
theorem b_s1 : b_seg 8 b_w1 0 := b_seg_of (by decide) (by decide)
theorem b_s2 : b_seg 14 b_w2 0 := b_seg_of (by decide) (by decide)

set_option maxRecDepth 100000 in
set_option maxHeartbeats 4000000 in
theorem l_lit {G : pv_G} {d : Nat} {Q : pv_Q} {c : Nat → Int32} {e : Nat} {s l1 l2 l3 : Int32} {t : pv_T} {I : pv_I} {L : pv_L} {Rf : pv_R} (hT : sh_ok t) (hR : rf_ok Rf) (hx : b_tx c e s I L) : ∀ (l : List Int32) (k r : Nat), b_seg k l 0 → r ≤ e → (∀ k1 r1 : Nat, (b_lit c e l r).1 = r1 → ((b_lit c e l r).2 = true ↔ I 74 k1 = 0) → k1 < 21 → pv_V G mX12_word d 0 0 Q 0 0 74 [.ref 61, .int l1, .int l2, .int l3, .int (Int32.ofNat r1), .int (Int32.ofNat k1)] [] t I L Rf) →
    pv_V G mX12_word d 0 0 Q 0 0 23 [.ref 61, .int l1, .int l2, .int l3, .int (Int32.ofNat r), .int (Int32.ofNat k)] [] t I L Rf := by
  have he := hx.2.1
  intro l
  induction l with
  | nil =>
    intro k r hs hr hQ
    refine pv_aload_0 (pc := 23) dX12_word_23 ?_
    refine pv_getR (pc := 24) dX12_word_24 fg_X12_58_12 rfl (by decide) (sx_61 hT) (rx_61_21 hR) ?_
    refine pv_iload_5 (pc := 27) dX12_word_27 ?_
    refine pv_ialoadj (pc := 29) dX12_word_29 (sx_74 hT) rfl (i_in (k := k) (by have := b_seg_k hs; omega) (by decide)) ?_
    refine pv_topv2 (y := 0) (by rw [i_nat (by have := b_seg_k hs; omega)]; exact hx.2.2.2.2.2 _ _ hs.2) ?_
    refine pv_if_eq (pc := 30) (tgt := 74) dX12_word_30 (by decide) (fun h30 => ?_) (fun h30 => absurd h30 (not_not_intro rfl))
    exact hQ k r rfl (iff_of_true rfl (hx.2.2.2.2.2 k 0 hs.2)) (by have := b_seg_k hs; rw [List.length_nil] at this; omega)
  | cons x l ih =>
    intro k r hs hr hQ
    have hk := hs.1 0 x rfl
    refine pv_aload_0 (pc := 23) dX12_word_23 ?_
    refine pv_getR (pc := 24) dX12_word_24 fg_X12_58_12 rfl (by decide) (sx_61 hT) (rx_61_21 hR) ?_
    refine pv_iload_5 (pc := 27) dX12_word_27 ?_
    refine pv_ialoadj (pc := 29) dX12_word_29 (sx_74 hT) rfl (i_in (k := k) (by have := b_seg_k hs; omega) (by decide)) ?_
    refine pv_topv2 (y := x) (by rw [i_nat (by have := b_seg_k hs; omega)]; exact hx.2.2.2.2.2 _ _ hk.1) ?_
    refine pv_if_eq (pc := 30) (tgt := 74) dX12_word_30 (by decide) (fun h30 => absurd h30 (fun q => by rw [q] at hk; exact absurd hk.2 (by decide))) (fun h30 => ?_)
    refine pv_iload_4 (pc := 33) dX12_word_33 ?_
    refine pv_aload_0 (pc := 35) dX12_word_35 ?_
    refine pv_getI (pc := 36) dX12_word_36 fg_X12_172_12 rfl (by decide) (sx_61 hT) ?_
    refine pv_icmp_ge (pc := 39) (tgt := 74) dX12_word_39 (by decide) (fun h39 => ?_) (fun h39 => ?_)
    · have e1 : b_lit c e (x :: l) r = (r, false) := by
        rw [b_lit]
        first
          | (have f1 : ¬ r < e := (by have g := h39; rw [hx.2.2.2.1, i_lt, i_of (by omega), i_of (by omega)] at g; omega); rw [if_neg (fun q => f1 q.1)]; done)
          | (have f1 : ¬ c r = x := h62; rw [if_neg (fun q => f1 q.2)]; done)
      rw [e1] at hQ
      exact hQ k r rfl (iff_of_false (fun q => absurd (show false = true from q) (by decide)) (fun q => by rw [hx.2.2.2.2.2 k x hk.1] at q; rw [q] at hk; exact absurd hk.2 (by decide))) (by have := b_seg_k hs; omega)
    · refine pv_aload_0 (pc := 42) dX12_word_42 ?_
      refine pv_getR (pc := 43) dX12_word_43 fg_X12_48_12 rfl (by decide) (sx_61 hT) (rx_61_16 hR) ?_
      refine pv_aload_0 (pc := 46) dX12_word_46 ?_
      refine pv_getI (pc := 47) dX12_word_47 fg_X12_175_12 rfl (by decide) (sx_61 hT) ?_
      refine pv_iload_4 (pc := 50) dX12_word_50 ?_
      refine pv_iadd (pc := 52) dX12_word_52 ?_
      have hre : r < e := (by have g := h39; rw [hx.2.2.2.1, i_lt, i_of (by omega), i_of (by omega)] at g; omega)
      have hc := b_cell hx (r := r) (by omega)
      rw [hx.2.2.1]
      refine pv_laloadj (pc := 53) dX12_word_53 (by decide) (sx_71 hT) rfl hc.1 ?_
      refine pv_l2i (pc := 54) dX12_word_54 ?_
      refine pv_topv2 (y := c r) hc.2 ?_
      refine pv_aload_0 (pc := 55) dX12_word_55 ?_
      refine pv_getR (pc := 56) dX12_word_56 fg_X12_58_12 rfl (by decide) (sx_61 hT) (rx_61_21 hR) ?_
      refine pv_iload_5 (pc := 59) dX12_word_59 ?_
      refine pv_ialoadj (pc := 61) dX12_word_61 (sx_74 hT) rfl (i_in (k := k) (by have := b_seg_k hs; omega) (by decide)) ?_
      refine pv_topv2 (y := x) (by rw [i_nat (by have := b_seg_k hs; omega)]; exact hx.2.2.2.2.2 _ _ hk.1) ?_
      refine pv_icmp_ne (pc := 62) (tgt := 74) dX12_word_62 (by decide) (fun h62 => ?_) (fun h62 => ?_)
      · have e1 : b_lit c e (x :: l) r = (r, false) := by
          rw [b_lit]
          first
            | (have f1 : ¬ r < e := (by have g := h39; rw [hx.2.2.2.1, i_lt, i_of (by omega), i_of (by omega)] at g; omega); rw [if_neg (fun q => f1 q.1)]; done)
            | (have f1 : ¬ c r = x := h62; rw [if_neg (fun q => f1 q.2)]; done)
        rw [e1] at hQ
        exact hQ k r rfl (iff_of_false (fun q => absurd (show false = true from q) (by decide)) (fun q => by rw [hx.2.2.2.2.2 k x hk.1] at q; rw [q] at hk; exact absurd hk.2 (by decide))) (by have := b_seg_k hs; omega)
      · refine pv_iinc_4 (pc := 65) (v := _ + 1) dX12_word_65 rfl (by decide) rfl ?_
        refine pv_iinc_5 (pc := 68) (v := _ + 1) dX12_word_68 rfl (by decide) rfl ?_
        refine pv_goto (pc := 71) (tgt := 23) dX12_word_71 (by decide) ?_
        rw [i_inc, i_inc]
        have e1 : b_lit c e (x :: l) r = b_lit c e l (r + 1) := by
          have f1 : c r = x := (by first | exact h62 | exact Classical.not_not.mp h62)
          rw [b_lit, if_pos ⟨hre, f1⟩]
        rw [e1] at hQ
        exact ih (k + 1) (r + 1) (b_seg_t hs) (by omega) hQ

set_option maxRecDepth 100000 in
set_option maxHeartbeats 4000000 in
theorem l_skw {G : pv_G} {d : Nat} {Q : pv_Q} {c : Nat → Int32} {e : Nat} {s l1 l2 l3 : Int32} {t : pv_T} {I : pv_I} {L : pv_L} {Rf : pv_R} (hT : sh_ok t) (hR : rf_ok Rf) (hx : b_tx c e s I L) {l4 l5 : Value} : ∀ (l : List Int32) (k : Nat), b_seg k l 0 → pv_V G mX12_word d 0 0 Q 0 0 120 [.ref 61, .int (Int32.ofNat (k + l.length)), .int l2, .int l3, l4, l5] [] t I L Rf →
    pv_V G mX12_word d 0 0 Q 0 0 105 [.ref 61, .int (Int32.ofNat k), .int l2, .int l3, l4, l5] [] t I L Rf := by
  intro l
  induction l with
  | nil =>
    intro k hs hQ
    refine pv_aload_0 (pc := 105) dX12_word_105 ?_
    refine pv_getR (pc := 106) dX12_word_106 fg_X12_58_12 rfl (by decide) (sx_61 hT) (rx_61_21 hR) ?_
    refine pv_iload_1 (pc := 109) dX12_word_109 ?_
    refine pv_ialoadj (pc := 110) dX12_word_110 (sx_74 hT) rfl (i_in (k := k) (by have := b_seg_k hs; omega) (by decide)) ?_
    refine pv_topv2 (y := 0) (by rw [i_nat (by have := b_seg_k hs; omega)]; exact hx.2.2.2.2.2 _ _ hs.2) ?_
    refine pv_if_eq (pc := 111) (tgt := 120) dX12_word_111 (by decide) (fun h111 => ?_) (fun h111 => absurd h111 (not_not_intro rfl))
    exact hQ
  | cons x l ih =>
    intro k hs hQ
    have hk := hs.1 0 x rfl
    rw [List.length_cons] at hQ
    refine pv_aload_0 (pc := 105) dX12_word_105 ?_
    refine pv_getR (pc := 106) dX12_word_106 fg_X12_58_12 rfl (by decide) (sx_61 hT) (rx_61_21 hR) ?_
    refine pv_iload_1 (pc := 109) dX12_word_109 ?_
    refine pv_ialoadj (pc := 110) dX12_word_110 (sx_74 hT) rfl (i_in (k := k) (by have := b_seg_k hs; omega) (by decide)) ?_
    refine pv_topv2 (y := x) (by rw [i_nat (by have := b_seg_k hs; omega)]; exact hx.2.2.2.2.2 _ _ hk.1) ?_
    refine pv_if_eq (pc := 111) (tgt := 120) dX12_word_111 (by decide) (fun h111 => absurd h111 (fun q => by rw [q] at hk; exact absurd hk.2 (by decide))) (fun h111 => ?_)
    refine pv_iinc_1 (pc := 114) (v := _ + 1) dX12_word_114 rfl (by decide) rfl ?_
    refine pv_goto (pc := 117) (tgt := 105) dX12_word_117 (by decide) ?_
    rw [i_inc]
    exact ih (k + 1) (b_seg_t hs) (by rw [show k + 1 + l.length = k + (l.length + 1) by omega]; exact hQ)

def b_mx (f r : Nat) : Nat := if f < r then r else f
theorem b_mx_lt {f r : Nat} (h : f < r) : b_mx f r = r := if_pos h
theorem b_mx_ge {f r : Nat} (h : ¬ f < r) : b_mx f r = f := if_neg h
def b_word (c : Nat → Int32) (e r : Nat) : Option (Nat × Nat) := if (b_lit c e b_w0 r).2 = true then some (0, (b_lit c e b_w0 r).1) else if (b_lit c e b_w1 r).2 = true then some (1, (b_lit c e b_w1 r).1) else if (b_lit c e b_w2 r).2 = true then some (2, (b_lit c e b_w2 r).1) else none
def b_far (c : Nat → Int32) (e r : Nat) : Nat := b_mx (b_mx (b_mx r (b_lit c e b_w0 r).1) (b_lit c e b_w1 r).1) (b_lit c e b_w2 r).1
def q_word (c : Nat → Int32) (e r : Nat) (t : pv_T) (I : pv_I) (L : pv_L) (Rf : pv_R) : pv_Q := fun v t1 I1 L1 R1 => t1 = t ∧ L1 = L ∧ R1 = Rf ∧ ((∃ w r1, b_word c e r = some (w, r1) ∧ w < 3 ∧ v = some (.int (Int32.ofNat w)) ∧ I1 = pv_u I 61 24 (Int32.ofNat r1)) ∨ (b_word c e r = none ∧ v = some (.int (-1)) ∧ I1 = pv_u I 61 27 (Int32.ofNat (b_far c e r))))
set_option maxRecDepth 100000 in
set_option maxHeartbeats 4000000 in
theorem c_X12_word {G : pv_G} {d : Nat} {c : Nat → Int32} {e r : Nat} {s : Int32} {t : pv_T} {I : pv_I} {L : pv_L} {Rf : pv_R} (hT : sh_ok t) (hR : rf_ok Rf) (hx : b_tx c e s I L) (hp : I 61 24 = Int32.ofNat r) (hr : r ≤ e) : pv_Mt G mX12_word d 0 0 [.ref 61] t I L Rf (q_word c e r t I L Rf) := by
  have he := hx.2.1
  have rd3 : ∀ (l4 l5 : Value), (b_lit c e b_w0 r).2 = false → (b_lit c e b_w1 r).2 = false → (b_lit c e b_w2 r).2 = false → pv_V G mX12_word d 0 0 (q_word c e r t I L Rf) 0 0 9 [.ref 61, .int (Int32.ofNat 21), .int (Int32.ofNat (b_mx (b_mx (b_mx r (b_lit c e b_w0 r).1) (b_lit c e b_w1 r).1) (b_lit c e b_w2 r).1)), .int 3, l4, l5] [] t I L Rf := by
    intro l4 l5 n0 n1 n2
    refine pv_iload_3 (pc := 9) dX12_word_9 ?_
    refine pv_iconst (pc := 10) (v := 3) dX12_word_10 (by decide) ?_
    refine pv_icmp_ge (pc := 11) (tgt := 129) dX12_word_11 (by decide) (fun _ => ?_) (fun q => absurd q (by decide))
    refine pv_aload_0 (pc := 129) dX12_word_129 ?_
    refine pv_iload_2 (pc := 130) dX12_word_130 ?_
    refine pv_putI (pc := 131) dX12_word_131 fl_X12_166_12 (fun q => by cases q) ⟨rfl, rfl, rfl⟩ (by decide) (sx_61 hT) ?_
    refine pv_iconst (pc := 134) (v := (-1)) dX12_word_134 (by decide) ?_
    refine pv_iret (pc := 135) dX12_word_135 rfl rfl ?_
    exact ⟨rfl, rfl, rfl, Or.inr ⟨by unfold b_word; rw [if_neg (by rw [n0]; decide), if_neg (by rw [n1]; decide), if_neg (by rw [n2]; decide)], rfl, rfl⟩⟩
  have rd2 : ∀ (l4 l5 : Value), (b_lit c e b_w0 r).2 = false → (b_lit c e b_w1 r).2 = false → pv_V G mX12_word d 0 0 (q_word c e r t I L Rf) 0 0 9 [.ref 61, .int (Int32.ofNat 14), .int (Int32.ofNat (b_mx (b_mx r (b_lit c e b_w0 r).1) (b_lit c e b_w1 r).1)), .int 2, l4, l5] [] t I L Rf := by
    intro l4 l5 n0 n1
    refine pv_iload_3 (pc := 9) dX12_word_9 ?_
    refine pv_iconst (pc := 10) (v := 3) dX12_word_10 (by decide) ?_
    refine pv_icmp_ge (pc := 11) (tgt := 129) dX12_word_11 (by decide) (fun q => absurd q (by decide)) (fun _ => ?_)
    refine pv_aload_0 (pc := 14) dX12_word_14 ?_
    refine pv_getI (pc := 15) dX12_word_15 fg_X12_169_12 rfl (by decide) (sx_61 hT) ?_
    refine pv_istore_4 (pc := 18) dX12_word_18 (by decide) rfl ?_
    refine pv_iload_1 (pc := 20) dX12_word_20 ?_
    refine pv_istore_5 (pc := 21) dX12_word_21 (by decide) rfl ?_
    rw [hp]
    refine l_lit hT hR hx b_w2 14 r b_s2 hr (fun k1 r1 hr1 hiff hk1 => ?_)
    have hle := b_lit_le c e b_w2 r
    have hl0 := b_lit_le c e b_w0 r
    have hl1 := b_lit_le c e b_w1 r
    have hl2 := b_lit_le c e b_w2 r
    have hmx : ∀ a b : Nat, b_mx a b ≤ a + b := fun a b => by unfold b_mx; split <;> omega
    have hm0 := hmx r (b_lit c e b_w0 r).1
    have hm1 := hmx (b_mx r (b_lit c e b_w0 r).1) (b_lit c e b_w1 r).1
    subst hr1
    refine pv_aload_0 (pc := 74) dX12_word_74 ?_
    refine pv_getR (pc := 75) dX12_word_75 fg_X12_58_12 rfl (by decide) (sx_61 hT) (rx_61_21 hR) ?_
    refine pv_iload_5 (pc := 78) dX12_word_78 ?_
    refine pv_ialoadj (pc := 80) dX12_word_80 (sx_74 hT) rfl (i_in (k := k1) (by omega) (by decide)) ?_
    refine pv_topv2 (y := I 74 k1) (by rw [i_nat (by omega)]) ?_
    refine pv_if_ne (pc := 81) (tgt := 92) dX12_word_81 (by decide) (fun h81 => ?_) (fun h81 => ?_)
    · refine pv_iload_4 (pc := 92) dX12_word_92 ?_
      refine pv_iload_2 (pc := 94) dX12_word_94 ?_
      refine pv_icmp_le (pc := 95) (tgt := 103) dX12_word_95 (by decide) (fun h95 => ?_) (fun h95 => ?_)
      · refine pv_iload_2 (pc := 103) dX12_word_103 ?_
        refine pv_topv2 (y := Int32.ofNat (b_mx (b_mx (b_mx r (b_lit c e b_w0 r).1) (b_lit c e b_w1 r).1) (b_lit c e b_w2 r).1)) (by first | (have f3 := h95; rw [i_ltn (by omega) (by omega)] at f3; exact congrArg Int32.ofNat (b_mx_lt f3).symm) | (have f3 := h95; rw [i_ltn (by omega) (by omega)] at f3; exact congrArg Int32.ofNat (b_mx_ge f3).symm)) ?_
        refine pv_istore_2 (pc := 104) dX12_word_104 (by decide) rfl ?_
        have f2 : (b_lit c e b_w2 r).2 = false := by
          cases hq : (b_lit c e b_w2 r).2 with
          | false => rfl
          | true => exact absurd (hiff.mp hq) (by first | exact h81 | exact fun q => h81 (not_not_intro q))
        refine l_skw (l1 := 0) hT hR hx b_w2 14 b_s2 ?_
        refine pv_iinc_1 (pc := 120) (v := _ + 1) dX12_word_120 rfl (by decide) rfl ?_
        refine pv_iinc_3 (pc := 123) (v := 3) dX12_word_123 (by decide) (by decide) rfl ?_
        refine pv_goto (pc := 126) (tgt := 9) dX12_word_126 (by decide) ?_
        rw [i_inc]
        exact rd3 _ _ n0 n1 f2
      · refine pv_iload_4 (pc := 98) dX12_word_98 ?_
        refine pv_goto (pc := 100) (tgt := 104) dX12_word_100 (by decide) ?_
        refine pv_topv2 (y := Int32.ofNat (b_mx (b_mx (b_mx r (b_lit c e b_w0 r).1) (b_lit c e b_w1 r).1) (b_lit c e b_w2 r).1)) (by first | (have f3 := h95; rw [i_ltn (by omega) (by omega)] at f3; exact congrArg Int32.ofNat (b_mx_lt f3).symm) | (have f3 := h95; rw [i_ltn (by omega) (by omega)] at f3; exact congrArg Int32.ofNat (b_mx_ge f3).symm)) ?_
        refine pv_istore_2 (pc := 104) dX12_word_104 (by decide) rfl ?_
        have f2 : (b_lit c e b_w2 r).2 = false := by
          cases hq : (b_lit c e b_w2 r).2 with
          | false => rfl
          | true => exact absurd (hiff.mp hq) (by first | exact h81 | exact fun q => h81 (not_not_intro q))
        refine l_skw (l1 := 0) hT hR hx b_w2 14 b_s2 ?_
        refine pv_iinc_1 (pc := 120) (v := _ + 1) dX12_word_120 rfl (by decide) rfl ?_
        refine pv_iinc_3 (pc := 123) (v := 3) dX12_word_123 (by decide) (by decide) rfl ?_
        refine pv_goto (pc := 126) (tgt := 9) dX12_word_126 (by decide) ?_
        rw [i_inc]
        exact rd3 _ _ n0 n1 f2
    · refine pv_aload_0 (pc := 84) dX12_word_84 ?_
      refine pv_iload_4 (pc := 85) dX12_word_85 ?_
      refine pv_putI (pc := 87) dX12_word_87 fl_X12_169_12 (fun q => by cases q) ⟨rfl, rfl, rfl⟩ (by decide) (sx_61 hT) ?_
      refine pv_iload_3 (pc := 90) dX12_word_90 ?_
      refine pv_iret (pc := 91) dX12_word_91 rfl rfl ?_
      have f0 : I 74 k1 = 0 := (by first | exact h81 | exact Classical.not_not.mp h81)
      have f1 := hiff.mpr f0
      exact ⟨rfl, rfl, rfl, Or.inl ⟨2, _, (show b_word c e r = some (2, (b_lit c e b_w2 r).1) from by unfold b_word; rw [if_neg (by rw [n0]; decide), if_neg (by rw [n1]; decide), if_pos f1]), (by decide), rfl, rfl⟩⟩
  have rd1 : ∀ (l4 l5 : Value), (b_lit c e b_w0 r).2 = false → pv_V G mX12_word d 0 0 (q_word c e r t I L Rf) 0 0 9 [.ref 61, .int (Int32.ofNat 8), .int (Int32.ofNat (b_mx r (b_lit c e b_w0 r).1)), .int 1, l4, l5] [] t I L Rf := by
    intro l4 l5 n0
    refine pv_iload_3 (pc := 9) dX12_word_9 ?_
    refine pv_iconst (pc := 10) (v := 3) dX12_word_10 (by decide) ?_
    refine pv_icmp_ge (pc := 11) (tgt := 129) dX12_word_11 (by decide) (fun q => absurd q (by decide)) (fun _ => ?_)
    refine pv_aload_0 (pc := 14) dX12_word_14 ?_
    refine pv_getI (pc := 15) dX12_word_15 fg_X12_169_12 rfl (by decide) (sx_61 hT) ?_
    refine pv_istore_4 (pc := 18) dX12_word_18 (by decide) rfl ?_
    refine pv_iload_1 (pc := 20) dX12_word_20 ?_
    refine pv_istore_5 (pc := 21) dX12_word_21 (by decide) rfl ?_
    rw [hp]
    refine l_lit hT hR hx b_w1 8 r b_s1 hr (fun k1 r1 hr1 hiff hk1 => ?_)
    have hle := b_lit_le c e b_w1 r
    have hl0 := b_lit_le c e b_w0 r
    have hl1 := b_lit_le c e b_w1 r
    have hl2 := b_lit_le c e b_w2 r
    have hmx : ∀ a b : Nat, b_mx a b ≤ a + b := fun a b => by unfold b_mx; split <;> omega
    have hm0 := hmx r (b_lit c e b_w0 r).1
    have hm1 := hmx (b_mx r (b_lit c e b_w0 r).1) (b_lit c e b_w1 r).1
    subst hr1
    refine pv_aload_0 (pc := 74) dX12_word_74 ?_
    refine pv_getR (pc := 75) dX12_word_75 fg_X12_58_12 rfl (by decide) (sx_61 hT) (rx_61_21 hR) ?_
    refine pv_iload_5 (pc := 78) dX12_word_78 ?_
    refine pv_ialoadj (pc := 80) dX12_word_80 (sx_74 hT) rfl (i_in (k := k1) (by omega) (by decide)) ?_
    refine pv_topv2 (y := I 74 k1) (by rw [i_nat (by omega)]) ?_
    refine pv_if_ne (pc := 81) (tgt := 92) dX12_word_81 (by decide) (fun h81 => ?_) (fun h81 => ?_)
    · refine pv_iload_4 (pc := 92) dX12_word_92 ?_
      refine pv_iload_2 (pc := 94) dX12_word_94 ?_
      refine pv_icmp_le (pc := 95) (tgt := 103) dX12_word_95 (by decide) (fun h95 => ?_) (fun h95 => ?_)
      · refine pv_iload_2 (pc := 103) dX12_word_103 ?_
        refine pv_topv2 (y := Int32.ofNat (b_mx (b_mx r (b_lit c e b_w0 r).1) (b_lit c e b_w1 r).1)) (by first | (have f3 := h95; rw [i_ltn (by omega) (by omega)] at f3; exact congrArg Int32.ofNat (b_mx_lt f3).symm) | (have f3 := h95; rw [i_ltn (by omega) (by omega)] at f3; exact congrArg Int32.ofNat (b_mx_ge f3).symm)) ?_
        refine pv_istore_2 (pc := 104) dX12_word_104 (by decide) rfl ?_
        have f2 : (b_lit c e b_w1 r).2 = false := by
          cases hq : (b_lit c e b_w1 r).2 with
          | false => rfl
          | true => exact absurd (hiff.mp hq) (by first | exact h81 | exact fun q => h81 (not_not_intro q))
        refine l_skw (l1 := 0) hT hR hx b_w1 8 b_s1 ?_
        refine pv_iinc_1 (pc := 120) (v := _ + 1) dX12_word_120 rfl (by decide) rfl ?_
        refine pv_iinc_3 (pc := 123) (v := 2) dX12_word_123 (by decide) (by decide) rfl ?_
        refine pv_goto (pc := 126) (tgt := 9) dX12_word_126 (by decide) ?_
        rw [i_inc]
        exact rd2 _ _ n0 f2
      · refine pv_iload_4 (pc := 98) dX12_word_98 ?_
        refine pv_goto (pc := 100) (tgt := 104) dX12_word_100 (by decide) ?_
        refine pv_topv2 (y := Int32.ofNat (b_mx (b_mx r (b_lit c e b_w0 r).1) (b_lit c e b_w1 r).1)) (by first | (have f3 := h95; rw [i_ltn (by omega) (by omega)] at f3; exact congrArg Int32.ofNat (b_mx_lt f3).symm) | (have f3 := h95; rw [i_ltn (by omega) (by omega)] at f3; exact congrArg Int32.ofNat (b_mx_ge f3).symm)) ?_
        refine pv_istore_2 (pc := 104) dX12_word_104 (by decide) rfl ?_
        have f2 : (b_lit c e b_w1 r).2 = false := by
          cases hq : (b_lit c e b_w1 r).2 with
          | false => rfl
          | true => exact absurd (hiff.mp hq) (by first | exact h81 | exact fun q => h81 (not_not_intro q))
        refine l_skw (l1 := 0) hT hR hx b_w1 8 b_s1 ?_
        refine pv_iinc_1 (pc := 120) (v := _ + 1) dX12_word_120 rfl (by decide) rfl ?_
        refine pv_iinc_3 (pc := 123) (v := 2) dX12_word_123 (by decide) (by decide) rfl ?_
        refine pv_goto (pc := 126) (tgt := 9) dX12_word_126 (by decide) ?_
        rw [i_inc]
        exact rd2 _ _ n0 f2
    · refine pv_aload_0 (pc := 84) dX12_word_84 ?_
      refine pv_iload_4 (pc := 85) dX12_word_85 ?_
      refine pv_putI (pc := 87) dX12_word_87 fl_X12_169_12 (fun q => by cases q) ⟨rfl, rfl, rfl⟩ (by decide) (sx_61 hT) ?_
      refine pv_iload_3 (pc := 90) dX12_word_90 ?_
      refine pv_iret (pc := 91) dX12_word_91 rfl rfl ?_
      have f0 : I 74 k1 = 0 := (by first | exact h81 | exact Classical.not_not.mp h81)
      have f1 := hiff.mpr f0
      exact ⟨rfl, rfl, rfl, Or.inl ⟨1, _, (show b_word c e r = some (1, (b_lit c e b_w1 r).1) from by unfold b_word; rw [if_neg (by rw [n0]; decide), if_pos f1]), (by decide), rfl, rfl⟩⟩
  have rd0 : ∀ (l4 l5 : Value), True → pv_V G mX12_word d 0 0 (q_word c e r t I L Rf) 0 0 9 [.ref 61, .int 0, .int (Int32.ofNat (r)), .int 0, l4, l5] [] t I L Rf := by
    intro l4 l5 _
    refine pv_iload_3 (pc := 9) dX12_word_9 ?_
    refine pv_iconst (pc := 10) (v := 3) dX12_word_10 (by decide) ?_
    refine pv_icmp_ge (pc := 11) (tgt := 129) dX12_word_11 (by decide) (fun q => absurd q (by decide)) (fun _ => ?_)
    refine pv_aload_0 (pc := 14) dX12_word_14 ?_
    refine pv_getI (pc := 15) dX12_word_15 fg_X12_169_12 rfl (by decide) (sx_61 hT) ?_
    refine pv_istore_4 (pc := 18) dX12_word_18 (by decide) rfl ?_
    refine pv_iload_1 (pc := 20) dX12_word_20 ?_
    refine pv_istore_5 (pc := 21) dX12_word_21 (by decide) rfl ?_
    rw [hp]
    refine l_lit hT hR hx b_w0 0 r b_s0 hr (fun k1 r1 hr1 hiff hk1 => ?_)
    have hle := b_lit_le c e b_w0 r
    have hl0 := b_lit_le c e b_w0 r
    have hl1 := b_lit_le c e b_w1 r
    have hl2 := b_lit_le c e b_w2 r
    have hmx : ∀ a b : Nat, b_mx a b ≤ a + b := fun a b => by unfold b_mx; split <;> omega
    have hm0 := hmx r (b_lit c e b_w0 r).1
    have hm1 := hmx (b_mx r (b_lit c e b_w0 r).1) (b_lit c e b_w1 r).1
    subst hr1
    refine pv_aload_0 (pc := 74) dX12_word_74 ?_
    refine pv_getR (pc := 75) dX12_word_75 fg_X12_58_12 rfl (by decide) (sx_61 hT) (rx_61_21 hR) ?_
    refine pv_iload_5 (pc := 78) dX12_word_78 ?_
    refine pv_ialoadj (pc := 80) dX12_word_80 (sx_74 hT) rfl (i_in (k := k1) (by omega) (by decide)) ?_
    refine pv_topv2 (y := I 74 k1) (by rw [i_nat (by omega)]) ?_
    refine pv_if_ne (pc := 81) (tgt := 92) dX12_word_81 (by decide) (fun h81 => ?_) (fun h81 => ?_)
    · refine pv_iload_4 (pc := 92) dX12_word_92 ?_
      refine pv_iload_2 (pc := 94) dX12_word_94 ?_
      refine pv_icmp_le (pc := 95) (tgt := 103) dX12_word_95 (by decide) (fun h95 => ?_) (fun h95 => ?_)
      · refine pv_iload_2 (pc := 103) dX12_word_103 ?_
        refine pv_topv2 (y := Int32.ofNat (b_mx r (b_lit c e b_w0 r).1)) (by first | (have f3 := h95; rw [i_ltn (by omega) (by omega)] at f3; exact congrArg Int32.ofNat (b_mx_lt f3).symm) | (have f3 := h95; rw [i_ltn (by omega) (by omega)] at f3; exact congrArg Int32.ofNat (b_mx_ge f3).symm)) ?_
        refine pv_istore_2 (pc := 104) dX12_word_104 (by decide) rfl ?_
        have f2 : (b_lit c e b_w0 r).2 = false := by
          cases hq : (b_lit c e b_w0 r).2 with
          | false => rfl
          | true => exact absurd (hiff.mp hq) (by first | exact h81 | exact fun q => h81 (not_not_intro q))
        refine l_skw (l1 := 0) hT hR hx b_w0 0 b_s0 ?_
        refine pv_iinc_1 (pc := 120) (v := _ + 1) dX12_word_120 rfl (by decide) rfl ?_
        refine pv_iinc_3 (pc := 123) (v := 1) dX12_word_123 (by decide) (by decide) rfl ?_
        refine pv_goto (pc := 126) (tgt := 9) dX12_word_126 (by decide) ?_
        rw [i_inc]
        exact rd1 _ _  f2
      · refine pv_iload_4 (pc := 98) dX12_word_98 ?_
        refine pv_goto (pc := 100) (tgt := 104) dX12_word_100 (by decide) ?_
        refine pv_topv2 (y := Int32.ofNat (b_mx r (b_lit c e b_w0 r).1)) (by first | (have f3 := h95; rw [i_ltn (by omega) (by omega)] at f3; exact congrArg Int32.ofNat (b_mx_lt f3).symm) | (have f3 := h95; rw [i_ltn (by omega) (by omega)] at f3; exact congrArg Int32.ofNat (b_mx_ge f3).symm)) ?_
        refine pv_istore_2 (pc := 104) dX12_word_104 (by decide) rfl ?_
        have f2 : (b_lit c e b_w0 r).2 = false := by
          cases hq : (b_lit c e b_w0 r).2 with
          | false => rfl
          | true => exact absurd (hiff.mp hq) (by first | exact h81 | exact fun q => h81 (not_not_intro q))
        refine l_skw (l1 := 0) hT hR hx b_w0 0 b_s0 ?_
        refine pv_iinc_1 (pc := 120) (v := _ + 1) dX12_word_120 rfl (by decide) rfl ?_
        refine pv_iinc_3 (pc := 123) (v := 1) dX12_word_123 (by decide) (by decide) rfl ?_
        refine pv_goto (pc := 126) (tgt := 9) dX12_word_126 (by decide) ?_
        rw [i_inc]
        exact rd1 _ _  f2
    · refine pv_aload_0 (pc := 84) dX12_word_84 ?_
      refine pv_iload_4 (pc := 85) dX12_word_85 ?_
      refine pv_putI (pc := 87) dX12_word_87 fl_X12_169_12 (fun q => by cases q) ⟨rfl, rfl, rfl⟩ (by decide) (sx_61 hT) ?_
      refine pv_iload_3 (pc := 90) dX12_word_90 ?_
      refine pv_iret (pc := 91) dX12_word_91 rfl rfl ?_
      have f0 : I 74 k1 = 0 := (by first | exact h81 | exact Classical.not_not.mp h81)
      have f1 := hiff.mpr f0
      exact ⟨rfl, rfl, rfl, Or.inl ⟨0, _, (show b_word c e r = some (0, (b_lit c e b_w0 r).1) from by unfold b_word; rw [if_pos f1]), (by decide), rfl, rfl⟩⟩
  refine pv_mt mgX12_word.2.2.2.2.2 [.ref 61, .retAddr 0, .retAddr 0, .retAddr 0, .retAddr 0, .retAddr 0] rfl (Nat.le_of_ble_eq_true rfl) ?_
  refine pv_iconst (pc := 0) (v := 0) dX12_word_0 (by decide) ?_
  refine pv_istore_1 (pc := 1) dX12_word_1 (by decide) rfl ?_
  refine pv_aload_0 (pc := 2) dX12_word_2 ?_
  refine pv_getI (pc := 3) dX12_word_3 fg_X12_169_12 rfl (by decide) (sx_61 hT) ?_
  refine pv_istore_2 (pc := 6) dX12_word_6 (by decide) rfl ?_
  refine pv_iconst (pc := 7) (v := 0) dX12_word_7 (by decide) ?_
  refine pv_istore_3 (pc := 8) dX12_word_8 (by decide) rfl ?_
  rw [hp]
  exact rd0 _ _ trivial

def b_isD (c : Nat → Int32) (e r : Nat) : Bool := decide (r < e) && decide (48 ≤ c r) && decide (c r ≤ 57)
def bN (I I1 : pv_I) : Prop := ∀ a j, ¬ (a = 61 ∧ (j = 24 ∨ j = 26 ∨ j = 27)) → I1 a j = I a j
theorem bN.rf {I : pv_I} : bN I I := fun _ _ _ => rfl
theorem bN.tr {I I1 I2 : pv_I} (h : bN I I1) (g : bN I1 I2) : bN I I2 := fun a j h1 => (g a j h1).trans (h a j h1)
theorem bN.u {I I1 : pv_I} (h : bN I I1) (j : Nat) (v : Int32) (hj : j = 24 ∨ j = 26 ∨ j = 27) : bN I (pv_u I1 61 j v) := fun a i h1 => by rw [pv_u_app, if_neg (fun q => h1 ⟨q.1, by omega⟩)]; exact h a i h1
theorem bN.tx {c : Nat → Int32} {e : Nat} {s : Int32} {I I1 : pv_I} {L : pv_L} (h : bN I I1) (hx : b_tx c e s I L) : b_tx c e s I1 L := b_tx_cg hx (h 61 23 (by omega)) (h 61 25 (by omega)) (fun j => h 74 j (by omega)) (fun _ => rfl)
def b_dg (c : Nat → Int32) (e : Nat) : Nat → Nat → Int32 → Nat × Int32
  | 0, r, x => (r, x)
  | m + 1, r, x => if b_isD c e r = true then b_dg c e m (r + 1) (10 * x + c r - 48) else (r, x)
theorem b_dg_s {c : Nat → Int32} {e m r : Nat} {x : Int32} (h : b_isD c e r = true) : b_dg c e (m + 1) r x = b_dg c e m (r + 1) (10 * x + c r - 48) := by rw [b_dg, if_pos h]
theorem b_dg_n {c : Nat → Int32} {e m r : Nat} {x : Int32} (h : b_isD c e r = false) : b_dg c e (m + 1) r x = (r, x) := by rw [b_dg, if_neg (by rw [h]; decide)]
def b_num (c : Nat → Int32) (e r : Nat) (low top : Int32) : Option (Nat × Int32) := if b_isD c e r = true then (if low ≤ (b_dg c e 3 r 0).2 ∧ (b_dg c e 3 r 0).2 ≤ top then some (b_dg c e 3 r 0) else none) else none
theorem b_isD_e {c : Nat → Int32} {e r : Nat} (h : b_isD c e r = true) : r < e := by
  simp only [b_isD, Bool.and_eq_true, decide_eq_true_eq] at h
  exact h.1.1
set_option maxRecDepth 100000 in
set_option maxHeartbeats 4000000 in
theorem c_X12_wrong {G : pv_G} {d : Nat} {b : Int32} {t : pv_T} {I : pv_I} {L : pv_L} {Rf : pv_R} (hT : sh_ok t) : pv_Mt G mX12_wrong d 0 0 [.ref 61, .int b] t I L Rf (pv_is (some (.int 0)) t (pv_u I 61 27 b) L Rf) := by
  refine pv_mt mgX12_wrong.2.2.2.2.2 [.ref 61, .int b] rfl (Nat.le_of_ble_eq_true rfl) ?_
  refine pv_aload_0 (pc := 0) dX12_wrong_0 ?_
  refine pv_iload_1 (pc := 1) dX12_wrong_1 ?_
  refine pv_putI (pc := 2) dX12_wrong_2 fl_X12_166_12 (fun q => by cases q) ⟨rfl, rfl, rfl⟩ (by decide) (sx_61 hT) ?_
  refine pv_iconst (pc := 5) (v := 0) dX12_wrong_5 (by decide) ?_
  refine pv_iret (pc := 6) dX12_wrong_6 rfl rfl ?_
  exact ⟨rfl, rfl, rfl, rfl, rfl⟩

set_option maxRecDepth 100000 in
set_option maxHeartbeats 4000000 in
theorem c_X12_isDigit {G : pv_G} {d : Nat} {c : Nat → Int32} {e r : Nat} {s : Int32} {t : pv_T} {I : pv_I} {L : pv_L} {Rf : pv_R} (hT : sh_ok t) (hR : rf_ok Rf) (hx : b_tx c e s I L) (hp : I 61 24 = Int32.ofNat r) (hr : r ≤ e) : pv_Mt G mX12_isDigit d 0 0 [.ref 61] t I L Rf (pv_is (some (.int (pv_b (b_isD c e r)))) t I L Rf) := by
  refine pv_mt mgX12_isDigit.2.2.2.2.2 [.ref 61] rfl (Nat.le_of_ble_eq_true rfl) ?_
  have he := hx.2.1
  refine pv_aload_0 (pc := 0) dX12_isDigit_0 ?_
  refine pv_getI (pc := 1) dX12_isDigit_1 fg_X12_169_12 rfl (by decide) (sx_61 hT) ?_
  refine pv_aload_0 (pc := 4) dX12_isDigit_4 ?_
  refine pv_getI (pc := 5) dX12_isDigit_5 fg_X12_172_12 rfl (by decide) (sx_61 hT) ?_
  refine pv_icmp_ge (pc := 8) (tgt := 55) dX12_isDigit_8 (by decide) (fun h8 => ?_) (fun h8 => ?_)
  · refine pv_iconst (pc := 55) (v := 0) dX12_isDigit_55 (by decide) ?_
    refine pv_iret (pc := 56) dX12_isDigit_56 rfl rfl ?_
    refine ⟨congrArg (fun z => some (Value.int z)) ?_, rfl, rfl, rfl, rfl⟩
    unfold b_isD
    first
      | (have f1 := h8; rw [hx.2.2.2.1, hp, i_ltn (by omega) (by omega)] at f1; rw [decide_eq_false f1]; rfl)
      | (have f1 := h28; rw [decide_eq_true hre, decide_eq_false (by rw [i_le]; rw [i_lt] at f1; omega)]; rfl)
      | (have f1 := h48; rw [decide_eq_false (p := c r ≤ 57) (by rw [i_le]; rw [i_lt] at f1; omega), Bool.and_false]; rfl)
      | (have f1 := h28; have f2 := h48; rw [decide_eq_true hre, decide_eq_true (p := 48 ≤ c r) (by rw [i_le]; rw [i_lt] at f1; omega), decide_eq_true (p := c r ≤ 57) (by rw [i_le]; rw [i_lt] at f2; omega)]; rfl)
  · refine pv_aload_0 (pc := 11) dX12_isDigit_11 ?_
    refine pv_getR (pc := 12) dX12_isDigit_12 fg_X12_48_12 rfl (by decide) (sx_61 hT) (rx_61_16 hR) ?_
    refine pv_aload_0 (pc := 15) dX12_isDigit_15 ?_
    refine pv_getI (pc := 16) dX12_isDigit_16 fg_X12_175_12 rfl (by decide) (sx_61 hT) ?_
    refine pv_aload_0 (pc := 19) dX12_isDigit_19 ?_
    refine pv_getI (pc := 20) dX12_isDigit_20 fg_X12_169_12 rfl (by decide) (sx_61 hT) ?_
    refine pv_iadd (pc := 23) dX12_isDigit_23 ?_
    have hre : r < e := (by have g := h8; rw [hx.2.2.2.1, hp, i_ltn (by omega) (by omega)] at g; first | exact g | exact Classical.not_not.mp g)
    have hc := b_cell hx (r := r) (by omega)
    rw [hx.2.2.1, hp]
    refine pv_laloadj (pc := 24) dX12_isDigit_24 (by decide) (sx_71 hT) rfl hc.1 ?_
    refine pv_l2i (pc := 25) dX12_isDigit_25 ?_
    refine pv_topv2 (y := c r) hc.2 ?_
    refine pv_bipush (pc := 26) (v := 48) dX12_isDigit_26 (by decide) ?_
    refine pv_icmp_lt (pc := 28) (tgt := 55) dX12_isDigit_28 (by decide) (fun h28 => ?_) (fun h28 => ?_)
    · refine pv_iconst (pc := 55) (v := 0) dX12_isDigit_55 (by decide) ?_
      refine pv_iret (pc := 56) dX12_isDigit_56 rfl rfl ?_
      refine ⟨congrArg (fun z => some (Value.int z)) ?_, rfl, rfl, rfl, rfl⟩
      unfold b_isD
      first
        | (have f1 := h8; rw [hx.2.2.2.1, hp, i_ltn (by omega) (by omega)] at f1; rw [decide_eq_false f1]; rfl)
        | (have f1 := h28; rw [decide_eq_true hre, decide_eq_false (by rw [i_le]; rw [i_lt] at f1; omega)]; rfl)
        | (have f1 := h48; rw [decide_eq_false (p := c r ≤ 57) (by rw [i_le]; rw [i_lt] at f1; omega), Bool.and_false]; rfl)
        | (have f1 := h28; have f2 := h48; rw [decide_eq_true hre, decide_eq_true (p := 48 ≤ c r) (by rw [i_le]; rw [i_lt] at f1; omega), decide_eq_true (p := c r ≤ 57) (by rw [i_le]; rw [i_lt] at f2; omega)]; rfl)
    · refine pv_aload_0 (pc := 31) dX12_isDigit_31 ?_
      refine pv_getR (pc := 32) dX12_isDigit_32 fg_X12_48_12 rfl (by decide) (sx_61 hT) (rx_61_16 hR) ?_
      refine pv_aload_0 (pc := 35) dX12_isDigit_35 ?_
      refine pv_getI (pc := 36) dX12_isDigit_36 fg_X12_175_12 rfl (by decide) (sx_61 hT) ?_
      refine pv_aload_0 (pc := 39) dX12_isDigit_39 ?_
      refine pv_getI (pc := 40) dX12_isDigit_40 fg_X12_169_12 rfl (by decide) (sx_61 hT) ?_
      refine pv_iadd (pc := 43) dX12_isDigit_43 ?_
      rw [hx.2.2.1, hp]
      refine pv_laloadj (pc := 44) dX12_isDigit_44 (by decide) (sx_71 hT) rfl hc.1 ?_
      refine pv_l2i (pc := 45) dX12_isDigit_45 ?_
      refine pv_topv2 (y := c r) hc.2 ?_
      refine pv_bipush (pc := 46) (v := 57) dX12_isDigit_46 (by decide) ?_
      refine pv_icmp_gt (pc := 48) (tgt := 55) dX12_isDigit_48 (by decide) (fun h48 => ?_) (fun h48 => ?_)
      · refine pv_iconst (pc := 55) (v := 0) dX12_isDigit_55 (by decide) ?_
        refine pv_iret (pc := 56) dX12_isDigit_56 rfl rfl ?_
        refine ⟨congrArg (fun z => some (Value.int z)) ?_, rfl, rfl, rfl, rfl⟩
        unfold b_isD
        first
          | (have f1 := h8; rw [hx.2.2.2.1, hp, i_ltn (by omega) (by omega)] at f1; rw [decide_eq_false f1]; rfl)
          | (have f1 := h28; rw [decide_eq_true hre, decide_eq_false (by rw [i_le]; rw [i_lt] at f1; omega)]; rfl)
          | (have f1 := h48; rw [decide_eq_false (p := c r ≤ 57) (by rw [i_le]; rw [i_lt] at f1; omega), Bool.and_false]; rfl)
          | (have f1 := h28; have f2 := h48; rw [decide_eq_true hre, decide_eq_true (p := 48 ≤ c r) (by rw [i_le]; rw [i_lt] at f1; omega), decide_eq_true (p := c r ≤ 57) (by rw [i_le]; rw [i_lt] at f2; omega)]; rfl)
      · refine pv_iconst (pc := 51) (v := 1) dX12_isDigit_51 (by decide) ?_
        refine pv_goto (pc := 52) (tgt := 56) dX12_isDigit_52 (by decide) ?_
        refine pv_iret (pc := 56) dX12_isDigit_56 rfl rfl ?_
        refine ⟨congrArg (fun z => some (Value.int z)) ?_, rfl, rfl, rfl, rfl⟩
        unfold b_isD
        first
          | (have f1 := h8; rw [hx.2.2.2.1, hp, i_ltn (by omega) (by omega)] at f1; rw [decide_eq_false f1]; rfl)
          | (have f1 := h28; rw [decide_eq_true hre, decide_eq_false (by rw [i_le]; rw [i_lt] at f1; omega)]; rfl)
          | (have f1 := h48; rw [decide_eq_false (p := c r ≤ 57) (by rw [i_le]; rw [i_lt] at f1; omega), Bool.and_false]; rfl)
          | (have f1 := h28; have f2 := h48; rw [decide_eq_true hre, decide_eq_true (p := 48 ≤ c r) (by rw [i_le]; rw [i_lt] at f1; omega), decide_eq_true (p := c r ≤ 57) (by rw [i_le]; rw [i_lt] at f2; omega)]; rfl)

set_option maxRecDepth 100000 in
set_option maxHeartbeats 4000000 in
theorem c_X12_number {G : pv_G} {d : Nat} {c : Nat → Int32} {e r : Nat} {s low top : Int32} {t : pv_T} {I : pv_I} {L : pv_L} {Rf : pv_R} (hT : sh_ok t) (hR : rf_ok Rf) (hx : b_tx c e s I L) (hp : I 61 24 = Int32.ofNat r) (hr : r ≤ e) (hd : 2 ≤ d) : pv_Mt G mX12_number d 0 0 [.ref 61, .int low, .int top] t I L Rf (fun v t1 I1 L1 R1 => t1 = t ∧ L1 = L ∧ R1 = Rf ∧ bN I I1 ∧ ((∃ p, b_num c e r low top = some p ∧ v = some (.int 1) ∧ I1 61 24 = Int32.ofNat p.1 ∧ I1 61 26 = p.2) ∨ (b_num c e r low top = none ∧ v = some (.int 0) ∧ I1 61 27 = Int32.ofNat r))) := by
  have he := hx.2.1
  have rE : b_isD c e r = true → ∀ (l4 : Int32) (I1 : pv_I) (p : Nat × Int32), bN I I1 → I1 61 24 = Int32.ofNat p.1 → I1 61 26 = p.2 → b_dg c e 3 r 0 = p → pv_V G mX12_number d 0 0 (fun v t1 I1 L1 R1 => t1 = t ∧ L1 = L ∧ R1 = Rf ∧ bN I I1 ∧ ((∃ p, b_num c e r low top = some p ∧ v = some (.int 1) ∧ I1 61 24 = Int32.ofNat p.1 ∧ I1 61 26 = p.2) ∨ (b_num c e r low top = none ∧ v = some (.int 0) ∧ I1 61 27 = Int32.ofNat r))) 0 0 88 [.ref 61, .int low, .int top, .int (Int32.ofNat r), .int l4] [] t I1 L Rf := by
    intro hD l4 I1 p hf h24 h26 hb
    refine pv_aload_0 (pc := 88) dX12_number_88 ?_
    refine pv_getI (pc := 89) dX12_number_89 fg_X12_178_12 rfl (by decide) (sx_61 hT) ?_
    refine pv_iload_1 (pc := 92) dX12_number_92 ?_
    refine pv_icmp_lt (pc := 93) (tgt := 104) dX12_number_93 (by decide) (fun h93 => ?_) (fun h93 => ?_)
    · refine pv_aload_0 (pc := 104) dX12_number_104 ?_
      refine pv_iload_3 (pc := 105) dX12_number_105 ?_
      refine pv_callV1 (pc := 106) dX12_number_106 mgX12_wrong lv_X12_185_12 (by decide) (sx_61 hT) (by omega) (c_X12_wrong hT) rfl rfl (by decide) ?_
      refine pv_if_eq (pc := 109) (tgt := 116) dX12_number_109 (by decide) (fun _ => ?_) (fun q => absurd q (by decide))
      refine pv_iconst (pc := 116) (v := 0) dX12_number_116 (by decide) ?_
      refine pv_iret (pc := 117) dX12_number_117 rfl rfl ?_
      first
        | (have f1 := h93
           refine ⟨rfl, rfl, rfl, hf.u 27 _ (by omega), Or.inr ⟨?_, rfl, rfl⟩⟩
           rw [h26, ← hb] at f1
           unfold b_num
           rw [if_pos hD, if_neg (fun q => by rw [i_le] at q; rw [i_lt] at f1; omega)])
        | (have f1 := h101
           refine ⟨rfl, rfl, rfl, hf.u 27 _ (by omega), Or.inr ⟨?_, rfl, rfl⟩⟩
           rw [h26, ← hb] at f1
           unfold b_num
           rw [if_pos hD, if_neg (fun q => by simp only [i_le, i_lt] at q f1; omega)])
        | (have f1 := h93; have f2 := h101
           refine ⟨rfl, rfl, rfl, hf, Or.inl ⟨b_dg c e 3 r 0, ?_, rfl, (by rw [h24, hb]), (by rw [h26, hb])⟩⟩
           rw [h26] at f1 f2
           unfold b_num
           rw [if_pos hD, hb, if_pos (by simp only [i_le, i_lt] at f1 f2 ⊢; omega)])
    · refine pv_aload_0 (pc := 96) dX12_number_96 ?_
      refine pv_getI (pc := 97) dX12_number_97 fg_X12_178_12 rfl (by decide) (sx_61 hT) ?_
      refine pv_iload_2 (pc := 100) dX12_number_100 ?_
      refine pv_icmp_le (pc := 101) (tgt := 112) dX12_number_101 (by decide) (fun h101 => ?_) (fun h101 => ?_)
      · refine pv_iconst (pc := 112) (v := 1) dX12_number_112 (by decide) ?_
        refine pv_goto (pc := 113) (tgt := 117) dX12_number_113 (by decide) ?_
        refine pv_iret (pc := 117) dX12_number_117 rfl rfl ?_
        first
          | (have f1 := h93
             refine ⟨rfl, rfl, rfl, hf.u 27 _ (by omega), Or.inr ⟨?_, rfl, rfl⟩⟩
             rw [h26, ← hb] at f1
             unfold b_num
             rw [if_pos hD, if_neg (fun q => by rw [i_le] at q; rw [i_lt] at f1; omega)])
          | (have f1 := h101
             refine ⟨rfl, rfl, rfl, hf.u 27 _ (by omega), Or.inr ⟨?_, rfl, rfl⟩⟩
             rw [h26, ← hb] at f1
             unfold b_num
             rw [if_pos hD, if_neg (fun q => by simp only [i_le, i_lt] at q f1; omega)])
          | (have f1 := h93; have f2 := h101
             refine ⟨rfl, rfl, rfl, hf, Or.inl ⟨b_dg c e 3 r 0, ?_, rfl, (by rw [h24, hb]), (by rw [h26, hb])⟩⟩
             rw [h26] at f1 f2
             unfold b_num
             rw [if_pos hD, hb, if_pos (by simp only [i_le, i_lt] at f1 f2 ⊢; omega)])
      · refine pv_aload_0 (pc := 104) dX12_number_104 ?_
        refine pv_iload_3 (pc := 105) dX12_number_105 ?_
        refine pv_callV1 (pc := 106) dX12_number_106 mgX12_wrong lv_X12_185_12 (by decide) (sx_61 hT) (by omega) (c_X12_wrong hT) rfl rfl (by decide) ?_
        refine pv_if_eq (pc := 109) (tgt := 116) dX12_number_109 (by decide) (fun _ => ?_) (fun q => absurd q (by decide))
        refine pv_iconst (pc := 116) (v := 0) dX12_number_116 (by decide) ?_
        refine pv_iret (pc := 117) dX12_number_117 rfl rfl ?_
        first
          | (have f1 := h93
             refine ⟨rfl, rfl, rfl, hf.u 27 _ (by omega), Or.inr ⟨?_, rfl, rfl⟩⟩
             rw [h26, ← hb] at f1
             unfold b_num
             rw [if_pos hD, if_neg (fun q => by rw [i_le] at q; rw [i_lt] at f1; omega)])
          | (have f1 := h101
             refine ⟨rfl, rfl, rfl, hf.u 27 _ (by omega), Or.inr ⟨?_, rfl, rfl⟩⟩
             rw [h26, ← hb] at f1
             unfold b_num
             rw [if_pos hD, if_neg (fun q => by simp only [i_le, i_lt] at q f1; omega)])
          | (have f1 := h93; have f2 := h101
             refine ⟨rfl, rfl, rfl, hf, Or.inl ⟨b_dg c e 3 r 0, ?_, rfl, (by rw [h24, hb]), (by rw [h26, hb])⟩⟩
             rw [h26] at f1 f2
             unfold b_num
             rw [if_pos hD, hb, if_pos (by simp only [i_le, i_lt] at f1 f2 ⊢; omega)])
  have rd3 : b_isD c e r = true → ∀ (I1 : pv_I) (r1 : Nat) (x1 : Int32), bN I I1 → I1 61 24 = Int32.ofNat r1 → I1 61 26 = x1 → r1 ≤ e → b_dg c e 3 r 0 = b_dg c e 0 r1 x1 → pv_V G mX12_number d 0 0 (fun v t1 I1 L1 R1 => t1 = t ∧ L1 = L ∧ R1 = Rf ∧ bN I I1 ∧ ((∃ p, b_num c e r low top = some p ∧ v = some (.int 1) ∧ I1 61 24 = Int32.ofNat p.1 ∧ I1 61 26 = p.2) ∨ (b_num c e r low top = none ∧ v = some (.int 0) ∧ I1 61 27 = Int32.ofNat r))) 0 0 29 [.ref 61, .int low, .int top, .int (Int32.ofNat r), .int 3] [] t I1 L Rf := by
    intro hD I1 r1 x1 hf h24 h26 hr1 hb
    have hb := hb.symm
    refine pv_iload_4 (pc := 29) dX12_number_29 ?_
    refine pv_iconst (pc := 31) (v := 3) dX12_number_31 (by decide) ?_
    refine pv_icmp_ge (pc := 32) (tgt := 88) dX12_number_32 (by decide) (fun _ => ?_) (fun q => absurd q (by decide))
    exact rE hD _ _ (r1, x1) hf h24 h26 (hb.symm.trans rfl)
  have rd2 : b_isD c e r = true → ∀ (I1 : pv_I) (r1 : Nat) (x1 : Int32), bN I I1 → I1 61 24 = Int32.ofNat r1 → I1 61 26 = x1 → r1 ≤ e → b_dg c e 3 r 0 = b_dg c e 1 r1 x1 → pv_V G mX12_number d 0 0 (fun v t1 I1 L1 R1 => t1 = t ∧ L1 = L ∧ R1 = Rf ∧ bN I I1 ∧ ((∃ p, b_num c e r low top = some p ∧ v = some (.int 1) ∧ I1 61 24 = Int32.ofNat p.1 ∧ I1 61 26 = p.2) ∨ (b_num c e r low top = none ∧ v = some (.int 0) ∧ I1 61 27 = Int32.ofNat r))) 0 0 29 [.ref 61, .int low, .int top, .int (Int32.ofNat r), .int 2] [] t I1 L Rf := by
    intro hD I1 r1 x1 hf h24 h26 hr1 hb
    have hb := hb.symm
    refine pv_iload_4 (pc := 29) dX12_number_29 ?_
    refine pv_iconst (pc := 31) (v := 3) dX12_number_31 (by decide) ?_
    refine pv_icmp_ge (pc := 32) (tgt := 88) dX12_number_32 (by decide) (fun q => absurd q (by decide)) (fun _ => ?_)
    refine pv_aload_0 (pc := 35) dX12_number_35 ?_
    refine pv_callV1 (pc := 36) dX12_number_36 mgX12_isDigit lv_X12_181_12 (by decide) (sx_61 hT) (by omega) (c_X12_isDigit hT hR (hf.tx hx) h24 hr1) rfl rfl (by decide) ?_
    refine pv_if_eq (pc := 39) (tgt := 88) dX12_number_39 (by decide) (fun h39 => ?_) (fun h39 => ?_)
    · have f1 := (pv_b_0 _).mp h39
      exact rE hD _ _ (r1, x1) hf h24 h26 (hb.symm.trans (b_dg_n f1))
    · refine pv_aload_0 (pc := 42) dX12_number_42 ?_
      refine pv_bipush (pc := 43) (v := 10) dX12_number_43 (by decide) ?_
      refine pv_aload_0 (pc := 45) dX12_number_45 ?_
      refine pv_getI (pc := 46) dX12_number_46 fg_X12_178_12 rfl (by decide) (sx_61 hT) ?_
      refine pv_imul (pc := 49) dX12_number_49 ?_
      refine pv_aload_0 (pc := 50) dX12_number_50 ?_
      refine pv_getR (pc := 51) dX12_number_51 fg_X12_48_12 rfl (by decide) (sx_61 hT) (rx_61_16 hR) ?_
      refine pv_aload_0 (pc := 54) dX12_number_54 ?_
      refine pv_getI (pc := 55) dX12_number_55 fg_X12_175_12 rfl (by decide) (sx_61 hT) ?_
      refine pv_aload_0 (pc := 58) dX12_number_58 ?_
      refine pv_getI (pc := 59) dX12_number_59 fg_X12_169_12 rfl (by decide) (sx_61 hT) ?_
      refine pv_iadd (pc := 62) dX12_number_62 ?_
      have hre := b_isD_e ((pv_b_n0 _).mp h39)
      have hc := b_cell (hf.tx hx) (r := r1) (by omega)
      rw [(hf.tx hx).2.2.1, h24]
      refine pv_laloadj (pc := 63) dX12_number_63 (by decide) (sx_71 hT) rfl hc.1 ?_
      refine pv_l2i (pc := 64) dX12_number_64 ?_
      refine pv_topv2 (y := c r1) hc.2 ?_
      refine pv_iadd (pc := 65) dX12_number_65 ?_
      refine pv_bipush (pc := 66) (v := 48) dX12_number_66 (by decide) ?_
      refine pv_isub (pc := 68) dX12_number_68 ?_
      refine pv_putI (pc := 69) dX12_number_69 fl_X12_178_12 (fun q => by cases q) ⟨rfl, rfl, rfl⟩ (by decide) (sx_61 hT) ?_
      refine pv_aload_0 (pc := 72) dX12_number_72 ?_
      refine pv_dup (pc := 73) dX12_number_73 rfl ?_
      refine pv_getI (pc := 74) dX12_number_74 fg_X12_169_12 rfl (by decide) (sx_61 hT) ?_
      refine pv_iconst (pc := 77) (v := 1) dX12_number_77 (by decide) ?_
      refine pv_iadd (pc := 78) dX12_number_78 ?_
      refine pv_putI (pc := 79) dX12_number_79 fl_X12_169_12 (fun q => by cases q) ⟨rfl, rfl, rfl⟩ (by decide) (sx_61 hT) ?_
      refine pv_iinc_4 (pc := 82) (v := 3) dX12_number_82 (by decide) (by decide) rfl ?_
      refine pv_goto (pc := 85) (tgt := 29) dX12_number_85 (by decide) ?_
      have f1 := (pv_b_n0 _).mp h39
      refine rd3 hD _ (r1 + 1) (10 * x1 + c r1 - 48) ((hf.u 26 _ (by omega)).u 24 _ (by omega)) ?_ ?_ (by omega) (hb.symm.trans (b_dg_s f1))
      · show I1 61 24 + 1 = _
        rw [h24, i_inc]
      · show 10 * I1 61 26 + c r1 - 48 = _
        rw [h26]
  have rd1 : b_isD c e r = true → ∀ (I1 : pv_I) (r1 : Nat) (x1 : Int32), bN I I1 → I1 61 24 = Int32.ofNat r1 → I1 61 26 = x1 → r1 ≤ e → b_dg c e 3 r 0 = b_dg c e 2 r1 x1 → pv_V G mX12_number d 0 0 (fun v t1 I1 L1 R1 => t1 = t ∧ L1 = L ∧ R1 = Rf ∧ bN I I1 ∧ ((∃ p, b_num c e r low top = some p ∧ v = some (.int 1) ∧ I1 61 24 = Int32.ofNat p.1 ∧ I1 61 26 = p.2) ∨ (b_num c e r low top = none ∧ v = some (.int 0) ∧ I1 61 27 = Int32.ofNat r))) 0 0 29 [.ref 61, .int low, .int top, .int (Int32.ofNat r), .int 1] [] t I1 L Rf := by
    intro hD I1 r1 x1 hf h24 h26 hr1 hb
    have hb := hb.symm
    refine pv_iload_4 (pc := 29) dX12_number_29 ?_
    refine pv_iconst (pc := 31) (v := 3) dX12_number_31 (by decide) ?_
    refine pv_icmp_ge (pc := 32) (tgt := 88) dX12_number_32 (by decide) (fun q => absurd q (by decide)) (fun _ => ?_)
    refine pv_aload_0 (pc := 35) dX12_number_35 ?_
    refine pv_callV1 (pc := 36) dX12_number_36 mgX12_isDigit lv_X12_181_12 (by decide) (sx_61 hT) (by omega) (c_X12_isDigit hT hR (hf.tx hx) h24 hr1) rfl rfl (by decide) ?_
    refine pv_if_eq (pc := 39) (tgt := 88) dX12_number_39 (by decide) (fun h39 => ?_) (fun h39 => ?_)
    · have f1 := (pv_b_0 _).mp h39
      exact rE hD _ _ (r1, x1) hf h24 h26 (hb.symm.trans (b_dg_n f1))
    · refine pv_aload_0 (pc := 42) dX12_number_42 ?_
      refine pv_bipush (pc := 43) (v := 10) dX12_number_43 (by decide) ?_
      refine pv_aload_0 (pc := 45) dX12_number_45 ?_
      refine pv_getI (pc := 46) dX12_number_46 fg_X12_178_12 rfl (by decide) (sx_61 hT) ?_
      refine pv_imul (pc := 49) dX12_number_49 ?_
      refine pv_aload_0 (pc := 50) dX12_number_50 ?_
      refine pv_getR (pc := 51) dX12_number_51 fg_X12_48_12 rfl (by decide) (sx_61 hT) (rx_61_16 hR) ?_
      refine pv_aload_0 (pc := 54) dX12_number_54 ?_
      refine pv_getI (pc := 55) dX12_number_55 fg_X12_175_12 rfl (by decide) (sx_61 hT) ?_
      refine pv_aload_0 (pc := 58) dX12_number_58 ?_
      refine pv_getI (pc := 59) dX12_number_59 fg_X12_169_12 rfl (by decide) (sx_61 hT) ?_
      refine pv_iadd (pc := 62) dX12_number_62 ?_
      have hre := b_isD_e ((pv_b_n0 _).mp h39)
      have hc := b_cell (hf.tx hx) (r := r1) (by omega)
      rw [(hf.tx hx).2.2.1, h24]
      refine pv_laloadj (pc := 63) dX12_number_63 (by decide) (sx_71 hT) rfl hc.1 ?_
      refine pv_l2i (pc := 64) dX12_number_64 ?_
      refine pv_topv2 (y := c r1) hc.2 ?_
      refine pv_iadd (pc := 65) dX12_number_65 ?_
      refine pv_bipush (pc := 66) (v := 48) dX12_number_66 (by decide) ?_
      refine pv_isub (pc := 68) dX12_number_68 ?_
      refine pv_putI (pc := 69) dX12_number_69 fl_X12_178_12 (fun q => by cases q) ⟨rfl, rfl, rfl⟩ (by decide) (sx_61 hT) ?_
      refine pv_aload_0 (pc := 72) dX12_number_72 ?_
      refine pv_dup (pc := 73) dX12_number_73 rfl ?_
      refine pv_getI (pc := 74) dX12_number_74 fg_X12_169_12 rfl (by decide) (sx_61 hT) ?_
      refine pv_iconst (pc := 77) (v := 1) dX12_number_77 (by decide) ?_
      refine pv_iadd (pc := 78) dX12_number_78 ?_
      refine pv_putI (pc := 79) dX12_number_79 fl_X12_169_12 (fun q => by cases q) ⟨rfl, rfl, rfl⟩ (by decide) (sx_61 hT) ?_
      refine pv_iinc_4 (pc := 82) (v := 2) dX12_number_82 (by decide) (by decide) rfl ?_
      refine pv_goto (pc := 85) (tgt := 29) dX12_number_85 (by decide) ?_
      have f1 := (pv_b_n0 _).mp h39
      refine rd2 hD _ (r1 + 1) (10 * x1 + c r1 - 48) ((hf.u 26 _ (by omega)).u 24 _ (by omega)) ?_ ?_ (by omega) (hb.symm.trans (b_dg_s f1))
      · show I1 61 24 + 1 = _
        rw [h24, i_inc]
      · show 10 * I1 61 26 + c r1 - 48 = _
        rw [h26]
  have rd0 : b_isD c e r = true → ∀ (I1 : pv_I) (r1 : Nat) (x1 : Int32), bN I I1 → I1 61 24 = Int32.ofNat r1 → I1 61 26 = x1 → r1 ≤ e → b_dg c e 3 r 0 = b_dg c e 3 r1 x1 → pv_V G mX12_number d 0 0 (fun v t1 I1 L1 R1 => t1 = t ∧ L1 = L ∧ R1 = Rf ∧ bN I I1 ∧ ((∃ p, b_num c e r low top = some p ∧ v = some (.int 1) ∧ I1 61 24 = Int32.ofNat p.1 ∧ I1 61 26 = p.2) ∨ (b_num c e r low top = none ∧ v = some (.int 0) ∧ I1 61 27 = Int32.ofNat r))) 0 0 29 [.ref 61, .int low, .int top, .int (Int32.ofNat r), .int 0] [] t I1 L Rf := by
    intro hD I1 r1 x1 hf h24 h26 hr1 hb
    have hb := hb.symm
    refine pv_iload_4 (pc := 29) dX12_number_29 ?_
    refine pv_iconst (pc := 31) (v := 3) dX12_number_31 (by decide) ?_
    refine pv_icmp_ge (pc := 32) (tgt := 88) dX12_number_32 (by decide) (fun q => absurd q (by decide)) (fun _ => ?_)
    refine pv_aload_0 (pc := 35) dX12_number_35 ?_
    refine pv_callV1 (pc := 36) dX12_number_36 mgX12_isDigit lv_X12_181_12 (by decide) (sx_61 hT) (by omega) (c_X12_isDigit hT hR (hf.tx hx) h24 hr1) rfl rfl (by decide) ?_
    refine pv_if_eq (pc := 39) (tgt := 88) dX12_number_39 (by decide) (fun h39 => ?_) (fun h39 => ?_)
    · have f1 := (pv_b_0 _).mp h39
      exact rE hD _ _ (r1, x1) hf h24 h26 (hb.symm.trans (b_dg_n f1))
    · refine pv_aload_0 (pc := 42) dX12_number_42 ?_
      refine pv_bipush (pc := 43) (v := 10) dX12_number_43 (by decide) ?_
      refine pv_aload_0 (pc := 45) dX12_number_45 ?_
      refine pv_getI (pc := 46) dX12_number_46 fg_X12_178_12 rfl (by decide) (sx_61 hT) ?_
      refine pv_imul (pc := 49) dX12_number_49 ?_
      refine pv_aload_0 (pc := 50) dX12_number_50 ?_
      refine pv_getR (pc := 51) dX12_number_51 fg_X12_48_12 rfl (by decide) (sx_61 hT) (rx_61_16 hR) ?_
      refine pv_aload_0 (pc := 54) dX12_number_54 ?_
      refine pv_getI (pc := 55) dX12_number_55 fg_X12_175_12 rfl (by decide) (sx_61 hT) ?_
      refine pv_aload_0 (pc := 58) dX12_number_58 ?_
      refine pv_getI (pc := 59) dX12_number_59 fg_X12_169_12 rfl (by decide) (sx_61 hT) ?_
      refine pv_iadd (pc := 62) dX12_number_62 ?_
      have hre := b_isD_e ((pv_b_n0 _).mp h39)
      have hc := b_cell (hf.tx hx) (r := r1) (by omega)
      rw [(hf.tx hx).2.2.1, h24]
      refine pv_laloadj (pc := 63) dX12_number_63 (by decide) (sx_71 hT) rfl hc.1 ?_
      refine pv_l2i (pc := 64) dX12_number_64 ?_
      refine pv_topv2 (y := c r1) hc.2 ?_
      refine pv_iadd (pc := 65) dX12_number_65 ?_
      refine pv_bipush (pc := 66) (v := 48) dX12_number_66 (by decide) ?_
      refine pv_isub (pc := 68) dX12_number_68 ?_
      refine pv_putI (pc := 69) dX12_number_69 fl_X12_178_12 (fun q => by cases q) ⟨rfl, rfl, rfl⟩ (by decide) (sx_61 hT) ?_
      refine pv_aload_0 (pc := 72) dX12_number_72 ?_
      refine pv_dup (pc := 73) dX12_number_73 rfl ?_
      refine pv_getI (pc := 74) dX12_number_74 fg_X12_169_12 rfl (by decide) (sx_61 hT) ?_
      refine pv_iconst (pc := 77) (v := 1) dX12_number_77 (by decide) ?_
      refine pv_iadd (pc := 78) dX12_number_78 ?_
      refine pv_putI (pc := 79) dX12_number_79 fl_X12_169_12 (fun q => by cases q) ⟨rfl, rfl, rfl⟩ (by decide) (sx_61 hT) ?_
      refine pv_iinc_4 (pc := 82) (v := 1) dX12_number_82 (by decide) (by decide) rfl ?_
      refine pv_goto (pc := 85) (tgt := 29) dX12_number_85 (by decide) ?_
      have f1 := (pv_b_n0 _).mp h39
      refine rd1 hD _ (r1 + 1) (10 * x1 + c r1 - 48) ((hf.u 26 _ (by omega)).u 24 _ (by omega)) ?_ ?_ (by omega) (hb.symm.trans (b_dg_s f1))
      · show I1 61 24 + 1 = _
        rw [h24, i_inc]
      · show 10 * I1 61 26 + c r1 - 48 = _
        rw [h26]
  refine pv_mt mgX12_number.2.2.2.2.2 [.ref 61, .int low, .int top, .retAddr 0, .retAddr 0] rfl (Nat.le_of_ble_eq_true rfl) ?_
  refine pv_aload_0 (pc := 0) dX12_number_0 ?_
  refine pv_getI (pc := 1) dX12_number_1 fg_X12_169_12 rfl (by decide) (sx_61 hT) ?_
  refine pv_istore_3 (pc := 4) dX12_number_4 (by decide) rfl ?_
  rw [hp]
  refine pv_aload_0 (pc := 5) dX12_number_5 ?_
  refine pv_iconst (pc := 6) (v := 0) dX12_number_6 (by decide) ?_
  refine pv_putI (pc := 7) dX12_number_7 fl_X12_178_12 (fun q => by cases q) ⟨rfl, rfl, rfl⟩ (by decide) (sx_61 hT) ?_
  refine pv_aload_0 (pc := 10) dX12_number_10 ?_
  refine pv_callV1 (pc := 11) dX12_number_11 mgX12_isDigit lv_X12_181_12 (by decide) (sx_61 hT) (by omega) (c_X12_isDigit hT hR ((bN.rf.u 26 0 (by omega)).tx hx) (show pv_u I 61 26 0 61 24 = _ from hp) hr) rfl rfl (by decide) ?_
  refine pv_if_ne (pc := 14) (tgt := 26) dX12_number_14 (by decide) (fun h14 => ?_) (fun h14 => ?_)
  · refine pv_iconst (pc := 26) (v := 0) dX12_number_26 (by decide) ?_
    refine pv_istore_4 (pc := 27) dX12_number_27 (by decide) rfl ?_
    exact rd0 ((pv_b_n0 _).mp h14) _ r 0 (bN.rf.u 26 0 (by omega)) hp rfl hr rfl
  · refine pv_aload_0 (pc := 17) dX12_number_17 ?_
    refine pv_aload_0 (pc := 18) dX12_number_18 ?_
    refine pv_getI (pc := 19) dX12_number_19 fg_X12_169_12 rfl (by decide) (sx_61 hT) ?_
    refine pv_callV1 (pc := 22) dX12_number_22 mgX12_wrong lv_X12_185_12 (by decide) (sx_61 hT) (by omega) (c_X12_wrong hT) rfl rfl (by decide) ?_
    refine pv_iret (pc := 25) dX12_number_25 rfl rfl ?_
    refine ⟨rfl, rfl, rfl, (bN.rf.u 26 0 (by omega)).u 27 _ (by omega), Or.inr ⟨?_, rfl, hp⟩⟩
    unfold b_num
    rw [if_neg (by rw [(pv_b_0 _).mp h14]; decide)]

def b_top (J : pv_I) (w i : Int32) : Int32 := if w = 0 then (if i = 0 then 6 else 9) else if w = 1 then J 0 0 - 1 else 999
set_option maxRecDepth 100000 in
set_option maxHeartbeats 4000000 in
theorem c_X12_top00 {G : pv_G} {d : Nat} {t : pv_T} {I : pv_I} {L : pv_L} {Rf : pv_R} (hT : sh_ok t) : pv_Mt G mX12_top d 0 0 [.ref 61, .int 0, .int 0] t I L Rf (pv_is (some (.int (6))) t I L Rf) := by
  refine pv_mt mgX12_top.2.2.2.2.2 [.ref 61, .int 0, .int 0] rfl (Nat.le_of_ble_eq_true rfl) ?_
  refine pv_iload_1 (pc := 0) dX12_top_0 ?_
  refine pv_if_ne (pc := 1) (tgt := 18) dX12_top_1 (by decide) (fun q => absurd q (by decide)) (fun _ => ?_)
  refine pv_iload_2 (pc := 4) dX12_top_4 ?_
  refine pv_if_ne (pc := 5) (tgt := 13) dX12_top_5 (by decide) (fun q => absurd q (by decide)) (fun _ => ?_)
  refine pv_bipush (pc := 8) (v := 6) dX12_top_8 (by decide) ?_
  refine pv_goto (pc := 10) (tgt := 35) dX12_top_10 (by decide) ?_
  refine pv_iret (pc := 35) dX12_top_35 rfl rfl ?_
  exact ⟨rfl, rfl, rfl, rfl, rfl⟩

set_option maxRecDepth 100000 in
set_option maxHeartbeats 4000000 in
theorem c_X12_top01 {G : pv_G} {d : Nat} {t : pv_T} {I : pv_I} {L : pv_L} {Rf : pv_R} (hT : sh_ok t) : pv_Mt G mX12_top d 0 0 [.ref 61, .int 0, .int 1] t I L Rf (pv_is (some (.int (9))) t I L Rf) := by
  refine pv_mt mgX12_top.2.2.2.2.2 [.ref 61, .int 0, .int 1] rfl (Nat.le_of_ble_eq_true rfl) ?_
  refine pv_iload_1 (pc := 0) dX12_top_0 ?_
  refine pv_if_ne (pc := 1) (tgt := 18) dX12_top_1 (by decide) (fun q => absurd q (by decide)) (fun _ => ?_)
  refine pv_iload_2 (pc := 4) dX12_top_4 ?_
  refine pv_if_ne (pc := 5) (tgt := 13) dX12_top_5 (by decide) (fun _ => ?_) (fun q => absurd q (by decide))
  refine pv_bipush (pc := 13) (v := 9) dX12_top_13 (by decide) ?_
  refine pv_goto (pc := 15) (tgt := 35) dX12_top_15 (by decide) ?_
  refine pv_iret (pc := 35) dX12_top_35 rfl rfl ?_
  exact ⟨rfl, rfl, rfl, rfl, rfl⟩

set_option maxRecDepth 100000 in
set_option maxHeartbeats 4000000 in
theorem c_X12_top02 {G : pv_G} {d : Nat} {t : pv_T} {I : pv_I} {L : pv_L} {Rf : pv_R} (hT : sh_ok t) : pv_Mt G mX12_top d 0 0 [.ref 61, .int 0, .int 2] t I L Rf (pv_is (some (.int (9))) t I L Rf) := by
  refine pv_mt mgX12_top.2.2.2.2.2 [.ref 61, .int 0, .int 2] rfl (Nat.le_of_ble_eq_true rfl) ?_
  refine pv_iload_1 (pc := 0) dX12_top_0 ?_
  refine pv_if_ne (pc := 1) (tgt := 18) dX12_top_1 (by decide) (fun q => absurd q (by decide)) (fun _ => ?_)
  refine pv_iload_2 (pc := 4) dX12_top_4 ?_
  refine pv_if_ne (pc := 5) (tgt := 13) dX12_top_5 (by decide) (fun _ => ?_) (fun q => absurd q (by decide))
  refine pv_bipush (pc := 13) (v := 9) dX12_top_13 (by decide) ?_
  refine pv_goto (pc := 15) (tgt := 35) dX12_top_15 (by decide) ?_
  refine pv_iret (pc := 35) dX12_top_35 rfl rfl ?_
  exact ⟨rfl, rfl, rfl, rfl, rfl⟩

set_option maxRecDepth 100000 in
set_option maxHeartbeats 4000000 in
theorem c_X12_isFull0 {G : pv_G} {d : Nat} {t : pv_T} {I : pv_I} {L : pv_L} {Rf : pv_R} (hT : sh_ok t) : pv_Mt G mX12_isFull d 0 0 [.ref 61, .int 0] t I L Rf (pv_is (some (.int (pv_b (decide (I 61 0 = 8))))) t I L Rf) := by
  refine pv_mt mgX12_isFull.2.2.2.2.2 [.ref 61, .int 0] rfl (Nat.le_of_ble_eq_true rfl) ?_
  refine pv_iload_1 (pc := 0) dX12_isFull_0 ?_
  refine pv_if_ne (pc := 1) (tgt := 17) dX12_isFull_1 (by decide) (fun q => absurd q (by decide)) (fun _ => ?_)
  refine pv_aload_0 (pc := 4) dX12_isFull_4 ?_
  refine pv_getI (pc := 5) dX12_isFull_5 fg_X12_108_12 rfl (by decide) (sx_61 hT) ?_
  refine pv_bipush (pc := 8) (v := 8) dX12_isFull_8 (by decide) ?_
  refine pv_icmp_ne (pc := 10) (tgt := 17) dX12_isFull_10 (by decide) (fun h10 => ?_) (fun h10 => ?_)
  · refine pv_iconst (pc := 17) (v := 0) dX12_isFull_17 (by decide) ?_
    refine pv_iret (pc := 18) dX12_isFull_18 rfl rfl ?_
    refine ⟨congrArg (fun z => some (Value.int z)) ?_, rfl, rfl, rfl, rfl⟩
    first
      | rfl
      | (have f1 := h10; rw [decide_eq_true (by first | exact f1 | exact Classical.not_not.mp f1)]; rfl)
      | (have f1 := h10; rw [decide_eq_false f1]; rfl)
  · refine pv_iconst (pc := 13) (v := 1) dX12_isFull_13 (by decide) ?_
    refine pv_goto (pc := 14) (tgt := 18) dX12_isFull_14 (by decide) ?_
    refine pv_iret (pc := 18) dX12_isFull_18 rfl rfl ?_
    refine ⟨congrArg (fun z => some (Value.int z)) ?_, rfl, rfl, rfl, rfl⟩
    first
      | rfl
      | (have f1 := h10; rw [decide_eq_true (by first | exact f1 | exact Classical.not_not.mp f1)]; rfl)
      | (have f1 := h10; rw [decide_eq_false f1]; rfl)

set_option maxRecDepth 100000 in
set_option maxHeartbeats 4000000 in
theorem c_X12_top10 {G : pv_G} {d : Nat} {t : pv_T} {I : pv_I} {L : pv_L} {Rf : pv_R} (hT : sh_ok t) : pv_Mt G mX12_top d 0 0 [.ref 61, .int 1, .int 0] t I L Rf (pv_is (some (.int (I 61 0 - 1))) t I L Rf) := by
  refine pv_mt mgX12_top.2.2.2.2.2 [.ref 61, .int 1, .int 0] rfl (Nat.le_of_ble_eq_true rfl) ?_
  refine pv_iload_1 (pc := 0) dX12_top_0 ?_
  refine pv_if_ne (pc := 1) (tgt := 18) dX12_top_1 (by decide) (fun _ => ?_) (fun q => absurd q (by decide))
  refine pv_iload_1 (pc := 18) dX12_top_18 ?_
  refine pv_iconst (pc := 19) (v := 1) dX12_top_19 (by decide) ?_
  refine pv_icmp_ne (pc := 20) (tgt := 32) dX12_top_20 (by decide) (fun q => absurd q (by decide)) (fun _ => ?_)
  refine pv_aload_0 (pc := 23) dX12_top_23 ?_
  refine pv_getI (pc := 24) dX12_top_24 fg_X12_108_12 rfl (by decide) (sx_61 hT) ?_
  refine pv_iconst (pc := 27) (v := 1) dX12_top_27 (by decide) ?_
  refine pv_isub (pc := 28) dX12_top_28 ?_
  refine pv_goto (pc := 29) (tgt := 35) dX12_top_29 (by decide) ?_
  refine pv_iret (pc := 35) dX12_top_35 rfl rfl ?_
  exact ⟨rfl, rfl, rfl, rfl, rfl⟩

set_option maxRecDepth 100000 in
set_option maxHeartbeats 4000000 in
theorem c_X12_isFull1 {G : pv_G} {d : Nat} {t : pv_T} {I : pv_I} {L : pv_L} {Rf : pv_R} (hT : sh_ok t) : pv_Mt G mX12_isFull d 0 0 [.ref 61, .int 1] t I L Rf (pv_is (some (.int (0))) t I L Rf) := by
  refine pv_mt mgX12_isFull.2.2.2.2.2 [.ref 61, .int 1] rfl (Nat.le_of_ble_eq_true rfl) ?_
  refine pv_iload_1 (pc := 0) dX12_isFull_0 ?_
  refine pv_if_ne (pc := 1) (tgt := 17) dX12_isFull_1 (by decide) (fun _ => ?_) (fun q => absurd q (by decide))
  refine pv_iconst (pc := 17) (v := 0) dX12_isFull_17 (by decide) ?_
  refine pv_iret (pc := 18) dX12_isFull_18 rfl rfl ?_
  refine ⟨congrArg (fun z => some (Value.int z)) ?_, rfl, rfl, rfl, rfl⟩
  first
    | rfl
    | (have f1 := h10; rw [decide_eq_true (by first | exact f1 | exact Classical.not_not.mp f1)]; rfl)
    | (have f1 := h10; rw [decide_eq_false f1]; rfl)

set_option maxRecDepth 100000 in
set_option maxHeartbeats 4000000 in
theorem c_X12_top20 {G : pv_G} {d : Nat} {t : pv_T} {I : pv_I} {L : pv_L} {Rf : pv_R} (hT : sh_ok t) : pv_Mt G mX12_top d 0 0 [.ref 61, .int 2, .int 0] t I L Rf (pv_is (some (.int (999))) t I L Rf) := by
  refine pv_mt mgX12_top.2.2.2.2.2 [.ref 61, .int 2, .int 0] rfl (Nat.le_of_ble_eq_true rfl) ?_
  refine pv_iload_1 (pc := 0) dX12_top_0 ?_
  refine pv_if_ne (pc := 1) (tgt := 18) dX12_top_1 (by decide) (fun _ => ?_) (fun q => absurd q (by decide))
  refine pv_iload_1 (pc := 18) dX12_top_18 ?_
  refine pv_iconst (pc := 19) (v := 1) dX12_top_19 (by decide) ?_
  refine pv_icmp_ne (pc := 20) (tgt := 32) dX12_top_20 (by decide) (fun _ => ?_) (fun q => absurd q (by decide))
  refine pv_sipush (pc := 32) (v := 999) dX12_top_32 (by decide) ?_
  refine pv_iret (pc := 35) dX12_top_35 rfl rfl ?_
  exact ⟨rfl, rfl, rfl, rfl, rfl⟩

set_option maxRecDepth 100000 in
set_option maxHeartbeats 4000000 in
theorem c_X12_top21 {G : pv_G} {d : Nat} {t : pv_T} {I : pv_I} {L : pv_L} {Rf : pv_R} (hT : sh_ok t) : pv_Mt G mX12_top d 0 0 [.ref 61, .int 2, .int 1] t I L Rf (pv_is (some (.int (999))) t I L Rf) := by
  refine pv_mt mgX12_top.2.2.2.2.2 [.ref 61, .int 2, .int 1] rfl (Nat.le_of_ble_eq_true rfl) ?_
  refine pv_iload_1 (pc := 0) dX12_top_0 ?_
  refine pv_if_ne (pc := 1) (tgt := 18) dX12_top_1 (by decide) (fun _ => ?_) (fun q => absurd q (by decide))
  refine pv_iload_1 (pc := 18) dX12_top_18 ?_
  refine pv_iconst (pc := 19) (v := 1) dX12_top_19 (by decide) ?_
  refine pv_icmp_ne (pc := 20) (tgt := 32) dX12_top_20 (by decide) (fun _ => ?_) (fun q => absurd q (by decide))
  refine pv_sipush (pc := 32) (v := 999) dX12_top_32 (by decide) ?_
  refine pv_iret (pc := 35) dX12_top_35 rfl rfl ?_
  exact ⟨rfl, rfl, rfl, rfl, rfl⟩

set_option maxRecDepth 100000 in
set_option maxHeartbeats 4000000 in
theorem c_X12_isFull2 {G : pv_G} {d : Nat} {t : pv_T} {I : pv_I} {L : pv_L} {Rf : pv_R} (hT : sh_ok t) : pv_Mt G mX12_isFull d 0 0 [.ref 61, .int 2] t I L Rf (pv_is (some (.int (0))) t I L Rf) := by
  refine pv_mt mgX12_isFull.2.2.2.2.2 [.ref 61, .int 2] rfl (Nat.le_of_ble_eq_true rfl) ?_
  refine pv_iload_1 (pc := 0) dX12_isFull_0 ?_
  refine pv_if_ne (pc := 1) (tgt := 17) dX12_isFull_1 (by decide) (fun _ => ?_) (fun q => absurd q (by decide))
  refine pv_iconst (pc := 17) (v := 0) dX12_isFull_17 (by decide) ?_
  refine pv_iret (pc := 18) dX12_isFull_18 rfl rfl ?_
  refine ⟨congrArg (fun z => some (Value.int z)) ?_, rfl, rfl, rfl, rfl⟩
  first
    | rfl
    | (have f1 := h10; rw [decide_eq_true (by first | exact f1 | exact Classical.not_not.mp f1)]; rfl)
    | (have f1 := h10; rw [decide_eq_false f1]; rfl)

