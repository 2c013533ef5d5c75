/-! the class: the search -/
def sK (I : pv_I) (L : pv_L) (c : Int32 → Int32) (n : Nat) (aim : Int32) (a b : Int64) (M : Nat) : Prop := I 29 5 = Int32.ofNat n ∧ I 29 6 = aim ∧ L 29 7 = a ∧ L 29 8 = b ∧ I 29 9 = Int32.ofNat M ∧ I 32 0 = c 0 ∧ I 32 1 = c 1 ∧ I 32 2 = c 2
def sBg (L : pv_L) (k : Nat) (bg : ML) : Prop := ∀ j x, bg[j]? = some x → L 30 (4 * k + j) = x.1 ∧ L 31 (4 * k + j) = x.2
def sW (I : pv_I) (w : List Int32) : Prop := ∀ (j : Nat) x, w[j]? = some x → I 33 j = x
def sB (I : pv_I) : BS → Prop
  | none => I 29 10 = 1000 ∧ I 29 11 = -1
  | some b => b.1.length ≤ 9 ∧ I 29 11 = Int32.ofNat b.1.length ∧ I 29 10 = b.2 ∧ ∀ (j : Nat) x, b.1[j]? = some x → I 34 j = x
def sI (k : Nat) (I I1 : pv_I) : Prop := ∀ a j, ¬ (a = 29 ∧ (j = 10 ∨ j = 11)) → a ≠ 34 → ¬ (a = 33 ∧ k ≤ j) → I1 a j = I a j
def sL (k : Nat) (L L1 : pv_L) : Prop := ∀ a j, ¬ ((a = 30 ∨ a = 31) ∧ 4 * (k + 1) ≤ j) → L1 a j = L a j
theorem sI.rf {k : Nat} {I : pv_I} : sI k I I := fun _ _ _ _ _ => rfl
theorem sL.rf {k : Nat} {L : pv_L} : sL k L L := fun _ _ _ => rfl
theorem sI.tr {k : Nat} {I I1 I2 : pv_I} (h : sI k I I1) (g : sI k I1 I2) : sI k I I2 := fun a j h1 h2 h3 => (g a j h1 h2 h3).trans (h a j h1 h2 h3)
theorem sL.tr {k : Nat} {L L1 L2 : pv_L} (h : sL k L L1) (g : sL k L1 L2) : sL k L L2 := fun a j h1 => (g a j h1).trans (h a j h1)
theorem sI.mono {k n : Nat} {I I1 : pv_I} (h : sI n I I1) (g : k ≤ n) : sI k I I1 := fun a j h1 h2 h3 => h a j h1 h2 (fun r => h3 ⟨r.1, by omega⟩)
theorem sL.mono {k n : Nat} {L L1 : pv_L} (h : sL n L L1) (g : k ≤ n) : sL k L L1 := fun a j h1 => h a j (fun r => h1 ⟨r.1, by omega⟩)
theorem sI.u {k : Nat} {I I1 : pv_I} (h : sI k I I1) (a j : Nat) (v : Int32) (hn : (a = 29 ∧ (j = 10 ∨ j = 11)) ∨ a = 34 ∨ (a = 33 ∧ k ≤ j)) : sI k I (pv_u I1 a j v) := fun b i h1 h2 h3 => by rw [pv_u_app, if_neg (by omega)]; exact h b i h1 h2 h3
theorem sL.u {k : Nat} {L L1 : pv_L} (h : sL k L L1) (a j : Nat) (v : Int64) (hn : (a = 30 ∨ a = 31) ∧ 4 * (k + 1) ≤ j) : sL k L (pv_u L1 a j v) := fun b i h1 => by rw [pv_u_app, if_neg (by omega)]; exact h b i h1
theorem sK.cg {k : Nat} {I I1 : pv_I} {L L1 : pv_L} {c : Int32 → Int32} {n : Nat} {aim : Int32} {a b : Int64} {M : Nat} (h : sK I L c n aim a b M) (hI : sI k I I1) (hL : sL k L L1) : sK I1 L1 c n aim a b M := by
  obtain ⟨h1, h2, h3, h4, h5, h6, h7, h8⟩ := h
  exact ⟨(hI 29 5 (by omega) (by omega) (by omega)).trans h1, (hI 29 6 (by omega) (by omega) (by omega)).trans h2, (hL 29 7 (by omega)).trans h3, (hL 29 8 (by omega)).trans h4, (hI 29 9 (by omega) (by omega) (by omega)).trans h5, (hI 32 0 (by omega) (by omega) (by omega)).trans h6, (hI 32 1 (by omega) (by omega) (by omega)).trans h7, (hI 32 2 (by omega) (by omega) (by omega)).trans h8⟩
theorem sBg.cg {k : Nat} {L L1 : pv_L} {bg : ML} (h : sBg L k bg) (hl : bg.length ≤ 4) (hL : sL k L L1) : sBg L1 k bg := fun j x hx => by
  have hj := (List.getElem?_eq_some_iff.mp hx).1
  rw [hL 30 _ (by omega), hL 31 _ (by omega)]; exact h j x hx
theorem sW.cg {I I1 : pv_I} {w : List Int32} (h : sW I w) (hI : sI w.length I I1) : sW I1 w := fun j x hx => by
  have hj := (List.getElem?_eq_some_iff.mp hx).1
  rw [hI 33 j (by omega) (by omega) (by omega)]; exact h j x hx
theorem sW.app {I I1 : pv_I} {w : List Int32} {s : Int32} (h : sW I w) (hf : ∀ j, j < w.length → I1 33 j = I 33 j) (h1 : I1 33 w.length = s) : sW I1 (w ++ [s]) := by
  intro j x hx
  by_cases hj : j < w.length
  · rw [List.getElem?_append_left hj] at hx; rw [hf j hj]; exact h j x hx
  · have hl := (List.getElem?_eq_some_iff.mp hx).1
    rw [List.length_append, List.length_singleton] at hl
    have e : j = w.length := by omega
    subst e
    rw [List.getElem?_append_right (Nat.le_refl _), Nat.sub_self] at hx
    cases hx; exact h1
theorem sB.cg {I I1 : pv_I} {bs : BS} (h : sB I bs) (h1 : I1 29 10 = I 29 10) (h2 : I1 29 11 = I 29 11) (h3 : ∀ j, I1 34 j = I 34 j) : sB I1 bs := by
  cases bs with
  | none => exact ⟨h1.trans h.1, h2.trans h.2⟩
  | some b => obtain ⟨g1, g2, g3, g4⟩ := h; exact ⟨g1, h2.trans g2, h1.trans g3, fun j x hx => (h3 j).trans (g4 j x hx)⟩
theorem sB_bet {I : pv_I} {bs : BS} (h : sB I bs) {so : Int32} {k : Nat} (hk : k ≤ 9) (hs : so.toInt ≤ 900) : w_bet so k bs = true ↔ ¬ I 29 10 < so ∧ (so = I 29 10 → Int32.ofNat k < I 29 11) := by
  cases bs with
  | none =>
    have h1 : (1000 : Int32).toInt = 1000 := by decide
    obtain ⟨g1, g2⟩ := h
    refine ⟨fun _ => ⟨by rw [g1, i_lt, h1]; omega, fun r => absurd r (by rw [g1, ← Int32.toInt_inj, h1]; omega)⟩, fun _ => rfl⟩
  | some b =>
    obtain ⟨g1, g2, g3, g4⟩ := h
    rw [g2, g3]
    have e5 : Int32.ofNat k < Int32.ofNat b.1.length ↔ k < b.1.length := by rw [i_lt, i_of (by omega), i_of (by omega)]; omega
    rw [e5]
    simp only [w_bet, Bool.or_eq_true, Bool.and_eq_true, decide_eq_true_eq, i_lt, ← Int32.toInt_inj]
    omega
theorem w_und_s (u : List Int32) (l s : Int32) : w_und (u ++ [l]) s = if s = 2 then decide (l = 2) else decide (s + l = 1) := by
  rw [w_und_1]; rfl
theorem x_lits : (2 : Int32).toInt = 2 ∧ (4 : Int32).toInt = 4 ∧ (9 : Int32).toInt = 9 ∧ (Int32.ofNat 9).toInt = 9 ∧ (0 : Int32).toInt = 0 := by decide
theorem s012 {s : Int32} (h : s = 0 ∨ s = 1 ∨ s = 2) : vp_in s 3 ∧ 0 ≤ s.toInt ∧ s.toInt ≤ 2 := by
  rcases h with rfl | rfl | rfl <;> exact ⟨by unfold vp_in; decide, by decide, by decide⟩

set_option maxRecDepth 100000 in
set_option maxHeartbeats 4000000 in
theorem c_X7_isFound {G : pv_G} {d : Nat} {t : pv_T} {I : pv_I} {L : pv_L} {Rf : pv_R} (hT : sh_ok t) (hR : rf_ok Rf)  : pv_Mt G mX7_isFound d 0 0 [.ref 29] t I L Rf (pv_is (some (.int (pv_b (decide (¬ I 29 11 = -1))))) t I L Rf) := by
  refine pv_mt mgX7_isFound.2.2.2.2.2 [.ref 29] rfl (Nat.le_of_ble_eq_true rfl) ?_
  refine pv_aload_0 (pc := 0) dX7_isFound_0 ?_
  refine pv_getI (pc := 1) dX7_isFound_1 fg_X7_35_7 rfl (by decide) (sx_29 hT) ?_
  refine pv_iconst (pc := 4) (v := (-1)) dX7_isFound_4 (by decide) ?_
  refine pv_icmp_eq (pc := 5) (tgt := 12) dX7_isFound_5 (by decide) (fun h5 => ?_) (fun h5 => ?_)
  · refine pv_iconst (pc := 12) (v := 0) dX7_isFound_12 (by decide) ?_
    refine pv_iret (pc := 13) dX7_isFound_13 rfl rfl ?_
    refine ⟨congrArg (fun z => some (Value.int z)) ?_, rfl, rfl, rfl, rfl⟩
    have f1 := h5
    first
      | (rw [decide_eq_true (by first | exact f1 | exact fun q => f1 q)]; rfl)
      | (rw [decide_eq_false (not_not_intro (by first | exact f1 | exact Classical.not_not.mp f1))]; rfl)
  · refine pv_iconst (pc := 8) (v := 1) dX7_isFound_8 (by decide) ?_
    refine pv_goto (pc := 9) (tgt := 13) dX7_isFound_9 (by decide) ?_
    refine pv_iret (pc := 13) dX7_isFound_13 rfl rfl ?_
    refine ⟨congrArg (fun z => some (Value.int z)) ?_, rfl, rfl, rfl, rfl⟩
    have f1 := h5
    first
      | (rw [decide_eq_true (by first | exact f1 | exact fun q => f1 q)]; rfl)
      | (rw [decide_eq_false (not_not_intro (by first | exact f1 | exact Classical.not_not.mp f1))]; rfl)

set_option maxRecDepth 100000 in
set_option maxHeartbeats 4000000 in
theorem c_X7_open {G : pv_G} {d : Nat} {x y z : Int32} {t : pv_T} {I : pv_I} {L : pv_L} {Rf : pv_R} (hT : sh_ok t) (hR : rf_ok Rf)  : pv_Mt G mX7_open d 0 0 [.ref 29, .int x, .int y, .int z] t I L Rf (pv_is none t (pv_u (pv_u (pv_u (pv_u (pv_u (pv_u I 32 0 x) 32 1 y) 32 2 z) 29 5 0) 29 10 1000) 29 11 (-1)) L Rf) := by
  refine pv_mt mgX7_open.2.2.2.2.2 [.ref 29, .int x, .int y, .int z] rfl (Nat.le_of_ble_eq_true rfl) ?_
  refine pv_aload_0 (pc := 0) dX7_open_0 ?_
  refine pv_getR (pc := 1) dX7_open_1 fg_X7_18_7 rfl (by decide) (sx_29 hT) (rx_29_2 hR) ?_
  refine pv_iconst (pc := 4) (v := 0) dX7_open_4 (by decide) ?_
  refine pv_iload_1 (pc := 5) dX7_open_5 ?_
  refine pv_iastorej (pc := 6) dX7_open_6 (by decide) (sx_32 hT) (j := 0) (by decide) (by unfold vp_in; decide) ?_
  refine pv_aload_0 (pc := 7) dX7_open_7 ?_
  refine pv_getR (pc := 8) dX7_open_8 fg_X7_18_7 rfl (by decide) (sx_29 hT) (rx_29_2 hR) ?_
  refine pv_iconst (pc := 11) (v := 1) dX7_open_11 (by decide) ?_
  refine pv_iload_2 (pc := 12) dX7_open_12 ?_
  refine pv_iastorej (pc := 13) dX7_open_13 (by decide) (sx_32 hT) (j := 1) (by decide) (by unfold vp_in; decide) ?_
  refine pv_aload_0 (pc := 14) dX7_open_14 ?_
  refine pv_getR (pc := 15) dX7_open_15 fg_X7_18_7 rfl (by decide) (sx_29 hT) (rx_29_2 hR) ?_
  refine pv_iconst (pc := 18) (v := 2) dX7_open_18 (by decide) ?_
  refine pv_iload_3 (pc := 19) dX7_open_19 ?_
  refine pv_iastorej (pc := 20) dX7_open_20 (by decide) (sx_32 hT) (j := 2) (by decide) (by unfold vp_in; decide) ?_
  refine pv_aload_0 (pc := 21) dX7_open_21 ?_
  refine pv_iconst (pc := 22) (v := 0) dX7_open_22 (by decide) ?_
  refine pv_putI (pc := 23) dX7_open_23 fl_X7_28_7 (fun q => by cases q) ⟨rfl, rfl, rfl⟩ (by decide) (sx_29 hT) ?_
  refine pv_aload_0 (pc := 26) dX7_open_26 ?_
  refine pv_sipush (pc := 27) (v := 1000) dX7_open_27 (by decide) ?_
  refine pv_putI (pc := 30) dX7_open_30 fl_X7_32_7 (fun q => by cases q) ⟨rfl, rfl, rfl⟩ (by decide) (sx_29 hT) ?_
  refine pv_aload_0 (pc := 33) dX7_open_33 ?_
  refine pv_iconst (pc := 34) (v := (-1)) dX7_open_34 (by decide) ?_
  refine pv_putI (pc := 35) dX7_open_35 fl_X7_35_7 (fun q => by cases q) ⟨rfl, rfl, rfl⟩ (by decide) (sx_29 hT) ?_
  refine pv_vret (pc := 38) dX7_open_38 rfl ?_
  exact ⟨rfl, rfl, rfl, rfl, rfl⟩

set_option maxRecDepth 100000 in
set_option maxHeartbeats 4000000 in
theorem c_X7_add {G : pv_G} {d : Nat} {n : Nat} {p q : Int64} {t : pv_T} {I : pv_I} {L : pv_L} {Rf : pv_R} (hT : sh_ok t) (hR : rf_ok Rf) (hn : n < 4) (g5 : I 29 5 = Int32.ofNat n) : pv_Mt G mX7_add d 0 0 [.ref 29, .long p, .long q] t I L Rf (pv_is none t (pv_u I 29 5 (Int32.ofNat (n + 1))) (pv_u (pv_u L 30 n p) 31 n q) Rf) := by
  refine pv_mt mgX7_add.2.2.2.2.2 [.ref 29, .long p, .retAddr 0, .long q, .retAddr 0] rfl (Nat.le_of_ble_eq_true rfl) ?_
  refine pv_aload_0 (pc := 0) dX7_add_0 ?_
  refine pv_getI (pc := 1) dX7_add_1 fg_X7_28_7 rfl (by decide) (sx_29 hT) ?_
  refine pv_iconst (pc := 4) (v := 4) dX7_add_4 (by decide) ?_
  refine pv_icmp_ge (pc := 5) (tgt := 38) dX7_add_5 (by decide) (fun h5 => absurd h5 (by rw [g5]; have e0 := i_of (k := n) (by omega); have q := x_lits; simp only [i_lt]; omega)) (fun h5 => ?_)
  refine pv_aload_0 (pc := 8) dX7_add_8 ?_
  refine pv_getR (pc := 9) dX7_add_9 fg_X7_9_7 rfl (by decide) (sx_29 hT) (rx_29_0 hR) ?_
  refine pv_aload_0 (pc := 12) dX7_add_12 ?_
  refine pv_getI (pc := 13) dX7_add_13 fg_X7_28_7 rfl (by decide) (sx_29 hT) ?_
  refine pv_lload_1 (pc := 16) dX7_add_16 ?_
  refine pv_lastorej (pc := 17) dX7_add_17 (by decide) (sx_30 hT) rfl (by have e : I 29 5 = Int32.ofNat n := g5; rw [e]; exact i_in (k := n) (by omega) (by decide)) ?_
  refine pv_aload_0 (pc := 18) dX7_add_18 ?_
  refine pv_getR (pc := 19) dX7_add_19 fg_X7_15_7 rfl (by decide) (sx_29 hT) (rx_29_1 hR) ?_
  refine pv_aload_0 (pc := 22) dX7_add_22 ?_
  refine pv_getI (pc := 23) dX7_add_23 fg_X7_28_7 rfl (by decide) (sx_29 hT) ?_
  refine pv_lload_3 (pc := 26) dX7_add_26 ?_
  refine pv_lastorej (pc := 27) dX7_add_27 (by decide) (sx_31 hT) rfl (by have e : I 29 5 = Int32.ofNat n := g5; rw [e]; exact i_in (k := n) (by omega) (by decide)) ?_
  refine pv_aload_0 (pc := 28) dX7_add_28 ?_
  refine pv_dup (pc := 29) dX7_add_29 rfl ?_
  refine pv_getI (pc := 30) dX7_add_30 fg_X7_28_7 rfl (by decide) (sx_29 hT) ?_
  refine pv_iconst (pc := 33) (v := 1) dX7_add_33 (by decide) ?_
  refine pv_iadd (pc := 34) dX7_add_34 ?_
  refine pv_putI (pc := 35) dX7_add_35 fl_X7_28_7 (fun q => by cases q) ⟨rfl, rfl, rfl⟩ (by decide) (sx_29 hT) ?_
  refine pv_vret (pc := 38) dX7_add_38 rfl ?_
  have e := i_nat (k := n) (by omega)
  refine ⟨rfl, rfl, ?_, ?_, rfl⟩
  · show pv_u I 29 5 (I 29 5 + 1) = _
    rw [g5, i_inc]
  · show pv_u (pv_u L 30 (I 29 5).toNatClampNeg p) 31 (I 29 5).toNatClampNeg q = _
    rw [g5, e]

set_option maxRecDepth 100000 in
set_option maxHeartbeats 4000000 in
theorem c_X7_isUndone {G : pv_G} {d : Nat} {k : Nat} {w : List Int32} {s : Int32} {t : pv_T} {I : pv_I} {L : pv_L} {Rf : pv_R} (hT : sh_ok t) (hR : rf_ok Rf) (hs : s = 0 ∨ s = 1 ∨ s = 2) (hw : sW I w) (hk : w.length = k) (h9 : k ≤ 9) : pv_Mt G mX7_isUndone d 0 0 [.ref 29, .int (Int32.ofNat k), .int s] t I L Rf (pv_is (some (.int (pv_b (w_und w s)))) t I L Rf) := by
  refine pv_mt mgX7_isUndone.2.2.2.2.2 [.ref 29, .int (Int32.ofNat k), .int s, .retAddr 0] rfl (Nat.le_of_ble_eq_true rfl) ?_
  rcases List.eq_nil_or_concat w with rfl | ⟨u, l, rfl⟩
  · subst hk
    refine pv_iload_1 (pc := 0) dX7_isUndone_0 ?_
    refine pv_if_le (pc := 1) (tgt := 13) dX7_isUndone_1 (by decide) (fun h1 => ?_) (fun h1 => absurd h1 (by decide))
    refine pv_iconst (pc := 13) (v := 0) dX7_isUndone_13 (by decide) ?_
    refine pv_iret (pc := 14) dX7_isUndone_14 rfl rfl ?_
    refine ⟨congrArg (fun z => some (Value.int z)) ?_, rfl, rfl, rfl, rfl⟩
    rfl
  · have hk2 : u.length + 1 = k := by rw [← hk]; simp
    subst hk2
    rw [List.concat_eq_append] at hw ⊢
    refine pv_iload_1 (pc := 0) dX7_isUndone_0 ?_
    refine pv_if_le (pc := 1) (tgt := 13) dX7_isUndone_1 (by decide) (fun h1 => absurd h1 (by have e0 := i_of (k := u.length + 1) (by omega); have q := x_lits; simp only [i_lt]; omega)) (fun h1 => ?_)
    refine pv_iload_1 (pc := 4) dX7_isUndone_4 ?_
    refine pv_aload_0 (pc := 5) dX7_isUndone_5 ?_
    refine pv_getR (pc := 6) dX7_isUndone_6 fg_X7_22_7 rfl (by decide) (sx_29 hT) (rx_29_3 hR) ?_
    refine pv_alen (pc := 9) dX7_isUndone_9 (sx_33 hT) rfl ?_
    refine pv_icmp_le (pc := 10) (tgt := 15) dX7_isUndone_10 (by decide) (fun h10 => ?_) (fun h10 => absurd h10 (by have e0 := i_of (k := u.length + 1) (by omega); have q := x_lits; simp only [i_lt]; omega))
    refine pv_aload_0 (pc := 15) dX7_isUndone_15 ?_
    refine pv_getR (pc := 16) dX7_isUndone_16 fg_X7_22_7 rfl (by decide) (sx_29 hT) (rx_29_3 hR) ?_
    refine pv_iload_1 (pc := 19) dX7_isUndone_19 ?_
    refine pv_iconst (pc := 20) (v := 1) dX7_isUndone_20 (by decide) ?_
    refine pv_isub (pc := 21) dX7_isUndone_21 ?_
    refine pv_topv2 (y := Int32.ofNat u.length) (by rw [← i_inc]; grind) ?_
    refine pv_ialoadj (pc := 22) dX7_isUndone_22 (sx_33 hT) rfl (i_in (k := u.length) (by omega) (by decide)) ?_
    refine pv_istore_3 (pc := 23) dX7_isUndone_23 (by decide) rfl ?_
    refine pv_iload_2 (pc := 24) dX7_isUndone_24 ?_
    refine pv_iconst (pc := 25) (v := 2) dX7_isUndone_25 (by decide) ?_
    refine pv_icmp_ne (pc := 26) (tgt := 42) dX7_isUndone_26 (by decide) (fun h26 => ?_) (fun h26 => ?_)
    · refine pv_iload_2 (pc := 42) dX7_isUndone_42 ?_
      refine pv_iload_3 (pc := 43) dX7_isUndone_43 ?_
      refine pv_iadd (pc := 44) dX7_isUndone_44 ?_
      refine pv_iconst (pc := 45) (v := 1) dX7_isUndone_45 (by decide) ?_
      refine pv_icmp_ne (pc := 46) (tgt := 53) dX7_isUndone_46 (by decide) (fun h46 => ?_) (fun h46 => ?_)
      · refine pv_iconst (pc := 53) (v := 0) dX7_isUndone_53 (by decide) ?_
        refine pv_iret (pc := 54) dX7_isUndone_54 rfl rfl ?_
        refine ⟨congrArg (fun z => some (Value.int z)) ?_, rfl, rfl, rfl, rfl⟩
        have e := i_nat (k := u.length) (by omega)
        have e2 : I 33 (Int32.ofNat u.length).toNatClampNeg = l := by rw [e]; exact hw _ _ (by simp)
        rw [w_und_s]
        first
          | (have f1 := h26; have f2 := h31; rw [e2] at f2; rw [if_pos (by first | exact f1 | exact Classical.not_not.mp f1), decide_eq_true (by first | exact f2 | exact Classical.not_not.mp f2)]; rfl)
          | (have f1 := h26; have f2 := h31; rw [e2] at f2; rw [if_pos (by first | exact f1 | exact Classical.not_not.mp f1), decide_eq_false f2]; rfl)
          | (have f1 := h26; have f2 := h46; rw [e2] at f2; rw [if_neg f1, decide_eq_true (by first | exact f2 | exact Classical.not_not.mp f2)]; rfl)
          | (have f1 := h26; have f2 := h46; rw [e2] at f2; rw [if_neg f1, decide_eq_false f2]; rfl)
      · refine pv_iconst (pc := 49) (v := 1) dX7_isUndone_49 (by decide) ?_
        refine pv_goto (pc := 50) (tgt := 54) dX7_isUndone_50 (by decide) ?_
        refine pv_iret (pc := 54) dX7_isUndone_54 rfl rfl ?_
        refine ⟨congrArg (fun z => some (Value.int z)) ?_, rfl, rfl, rfl, rfl⟩
        have e := i_nat (k := u.length) (by omega)
        have e2 : I 33 (Int32.ofNat u.length).toNatClampNeg = l := by rw [e]; exact hw _ _ (by simp)
        rw [w_und_s]
        first
          | (have f1 := h26; have f2 := h31; rw [e2] at f2; rw [if_pos (by first | exact f1 | exact Classical.not_not.mp f1), decide_eq_true (by first | exact f2 | exact Classical.not_not.mp f2)]; rfl)
          | (have f1 := h26; have f2 := h31; rw [e2] at f2; rw [if_pos (by first | exact f1 | exact Classical.not_not.mp f1), decide_eq_false f2]; rfl)
          | (have f1 := h26; have f2 := h46; rw [e2] at f2; rw [if_neg f1, decide_eq_true (by first | exact f2 | exact Classical.not_not.mp f2)]; rfl)
          | (have f1 := h26; have f2 := h46; rw [e2] at f2; rw [if_neg f1, decide_eq_false f2]; rfl)
    · refine pv_iload_3 (pc := 29) dX7_isUndone_29 ?_
      refine pv_iconst (pc := 30) (v := 2) dX7_isUndone_30 (by decide) ?_
      refine pv_icmp_ne (pc := 31) (tgt := 38) dX7_isUndone_31 (by decide) (fun h31 => ?_) (fun h31 => ?_)
      · refine pv_iconst (pc := 38) (v := 0) dX7_isUndone_38 (by decide) ?_
        refine pv_goto (pc := 39) (tgt := 54) dX7_isUndone_39 (by decide) ?_
        refine pv_iret (pc := 54) dX7_isUndone_54 rfl rfl ?_
        refine ⟨congrArg (fun z => some (Value.int z)) ?_, rfl, rfl, rfl, rfl⟩
        have e := i_nat (k := u.length) (by omega)
        have e2 : I 33 (Int32.ofNat u.length).toNatClampNeg = l := by rw [e]; exact hw _ _ (by simp)
        rw [w_und_s]
        first
          | (have f1 := h26; have f2 := h31; rw [e2] at f2; rw [if_pos (by first | exact f1 | exact Classical.not_not.mp f1), decide_eq_true (by first | exact f2 | exact Classical.not_not.mp f2)]; rfl)
          | (have f1 := h26; have f2 := h31; rw [e2] at f2; rw [if_pos (by first | exact f1 | exact Classical.not_not.mp f1), decide_eq_false f2]; rfl)
          | (have f1 := h26; have f2 := h46; rw [e2] at f2; rw [if_neg f1, decide_eq_true (by first | exact f2 | exact Classical.not_not.mp f2)]; rfl)
          | (have f1 := h26; have f2 := h46; rw [e2] at f2; rw [if_neg f1, decide_eq_false f2]; rfl)
      · refine pv_iconst (pc := 34) (v := 1) dX7_isUndone_34 (by decide) ?_
        refine pv_goto (pc := 35) (tgt := 54) dX7_isUndone_35 (by decide) ?_
        refine pv_iret (pc := 54) dX7_isUndone_54 rfl rfl ?_
        refine ⟨congrArg (fun z => some (Value.int z)) ?_, rfl, rfl, rfl, rfl⟩
        have e := i_nat (k := u.length) (by omega)
        have e2 : I 33 (Int32.ofNat u.length).toNatClampNeg = l := by rw [e]; exact hw _ _ (by simp)
        rw [w_und_s]
        first
          | (have f1 := h26; have f2 := h31; rw [e2] at f2; rw [if_pos (by first | exact f1 | exact Classical.not_not.mp f1), decide_eq_true (by first | exact f2 | exact Classical.not_not.mp f2)]; rfl)
          | (have f1 := h26; have f2 := h31; rw [e2] at f2; rw [if_pos (by first | exact f1 | exact Classical.not_not.mp f1), decide_eq_false f2]; rfl)
          | (have f1 := h26; have f2 := h46; rw [e2] at f2; rw [if_neg f1, decide_eq_true (by first | exact f2 | exact Classical.not_not.mp f2)]; rfl)
          | (have f1 := h26; have f2 := h46; rw [e2] at f2; rw [if_neg f1, decide_eq_false f2]; rfl)

set_option maxRecDepth 100000 in
set_option maxHeartbeats 4000000 in
theorem l_xth {G : pv_G} {d k : Nat} {bg : ML} {aim : Int32} {a b : Int64} {t : pv_T} {I : pv_I} {L : pv_L} {Rf : pv_R} (hT : sh_ok t) (hR : rf_ok Rf) (hn : I 29 5 = Int32.ofNat bg.length) (hm : I 29 6 = aim) (ha : L 29 7 = a) (hb : L 29 8 = b) (hbl : bg.length ≤ 4) (hk : k ≤ 9) (hbg : sBg L k bg) : ∀ (n i : Nat) (r : Bool) (l5 : Value), i + n = bg.length → pv_V G mX7_isThere d 0 0 (pv_is (some (.int (pv_b (r && x_th a b aim i (bg.drop i))))) t I L Rf) 0 0 19 [.ref 29, .int (Int32.ofNat k), .int (Int32.ofNat (4 * k)), .int (pv_b r), .int (Int32.ofNat i), l5] [] t I L Rf := by
  intro n
  induction n with
  | zero =>
    intro i r l5 hi
    skip
    refine pv_iload_3 (pc := 19) dX7_isThere_19 ?_
    refine pv_if_eq (pc := 20) (tgt := 104) dX7_isThere_20 (by decide) (fun h20 => ?_) (fun h20 => ?_)
    · refine pv_iload_3 (pc := 104) dX7_isThere_104 ?_
      refine pv_iret (pc := 105) dX7_isThere_105 rfl (pv_b_nar _) ?_
      rw [List.drop_of_length_le (by omega)]
      refine ⟨congrArg (fun z => some (Value.int z)) ?_, rfl, rfl, rfl, rfl⟩
      cases r <;> rfl
    · refine pv_iload_4 (pc := 23) dX7_isThere_23 ?_
      refine pv_aload_0 (pc := 25) dX7_isThere_25 ?_
      refine pv_getI (pc := 26) dX7_isThere_26 fg_X7_28_7 rfl (by decide) (sx_29 hT) ?_
      refine pv_icmp_ge (pc := 29) (tgt := 104) dX7_isThere_29 (by decide) (fun h29 => ?_) (fun h29 => absurd h29 (by rw [hn]; have e0 := i_of (k := i) (by omega); have e1 := i_of (k := bg.length) (by omega); have q := x_lits; simp only [i_lt]; omega))
      refine pv_iload_3 (pc := 104) dX7_isThere_104 ?_
      refine pv_iret (pc := 105) dX7_isThere_105 rfl (pv_b_nar _) ?_
      rw [List.drop_of_length_le (by omega)]
      refine ⟨congrArg (fun z => some (Value.int z)) ?_, rfl, rfl, rfl, rfl⟩
      cases r <;> rfl
  | succ n ih =>
    intro i r l5 hi
    skip
    refine pv_iload_3 (pc := 19) dX7_isThere_19 ?_
    refine pv_if_eq (pc := 20) (tgt := 104) dX7_isThere_20 (by decide) (fun h20 => ?_) (fun h20 => ?_)
    · refine pv_iload_3 (pc := 104) dX7_isThere_104 ?_
      refine pv_iret (pc := 105) dX7_isThere_105 rfl (pv_b_nar _) ?_
      have hr : r = false := by
        cases r
        · rfl
        · exact absurd (by first | exact h20 | exact Classical.not_not.mp h20) (by decide)
      rw [hr]
      exact ⟨rfl, rfl, rfl, rfl, rfl⟩
    · refine pv_iload_4 (pc := 23) dX7_isThere_23 ?_
      refine pv_aload_0 (pc := 25) dX7_isThere_25 ?_
      refine pv_getI (pc := 26) dX7_isThere_26 fg_X7_28_7 rfl (by decide) (sx_29 hT) ?_
      refine pv_icmp_ge (pc := 29) (tgt := 104) dX7_isThere_29 (by decide) (fun h29 => absurd h29 (by rw [hn]; have e0 := i_of (k := i) (by omega); have e1 := i_of (k := bg.length) (by omega); have q := x_lits; simp only [i_lt]; omega)) (fun h29 => ?_)
      have ei := i_nat (k := 4 * k + i) (by omega)
      obtain ⟨z, hz⟩ := bg_at (bg := bg) (j := i) (by omega)
      obtain ⟨z1, z2⟩ := hbg i z hz
      have hdr : bg.drop i = z :: bg.drop (i + 1) := by
        rw [List.drop_eq_getElem_cons (by omega)]
        congr 1
        rw [List.getElem?_eq_getElem (by omega)] at hz
        exact Option.some.inj hz
      have hr : r = true := by cases r; exact absurd rfl h20; rfl
      refine pv_aload_0 (pc := 32) dX7_isThere_32 ?_
      refine pv_getR (pc := 33) dX7_isThere_33 fg_X7_9_7 rfl (by decide) (sx_29 hT) (rx_29_0 hR) ?_
      refine pv_iload_2 (pc := 36) dX7_isThere_36 ?_
      refine pv_iload_4 (pc := 37) dX7_isThere_37 ?_
      refine pv_iadd (pc := 39) dX7_isThere_39 ?_
      refine pv_topv2 (y := Int32.ofNat (4 * k + i)) (by rw [← Int32.ofNat_add]) ?_
      refine pv_laloadj (pc := 40) dX7_isThere_40 (by decide) (sx_30 hT) rfl (i_in (k := 4 * k + i) (by omega) (by decide)) ?_
      refine pv_aload_0 (pc := 41) dX7_isThere_41 ?_
      refine pv_getL (pc := 42) dX7_isThere_42 fg_X7_41_7 (by decide) (sx_29 hT) ?_
      refine pv_lcmp_ne (pc := 45) (tgt := 70) dX7_isThere_45 dX7_isThere_46 (by decide) (fun h45 => ?_) (fun h45 => ?_)
      · refine pv_iconst (pc := 70) (v := 0) dX7_isThere_70 (by decide) ?_
        refine pv_istore_5 (pc := 71) dX7_isThere_71 (by decide) rfl ?_
        refine pv_iload_5 (pc := 73) dX7_isThere_73 ?_
        refine pv_iload_4 (pc := 75) dX7_isThere_75 ?_
        refine pv_aload_0 (pc := 77) dX7_isThere_77 ?_
        refine pv_getI (pc := 78) dX7_isThere_78 fg_X7_38_7 rfl (by decide) (sx_29 hT) ?_
        refine pv_icmp_ne (pc := 81) (tgt := 88) dX7_isThere_81 (by decide) (fun h81 => ?_) (fun h81 => ?_)
        · refine pv_iconst (pc := 88) (v := 0) dX7_isThere_88 (by decide) ?_
          refine pv_icmp_ne (pc := 89) (tgt := 96) dX7_isThere_89 (by decide) (fun q => absurd q (by decide)) (fun _ => ?_)
          refine pv_iconst (pc := 92) (v := 1) dX7_isThere_92 (by decide) ?_
          refine pv_goto (pc := 93) (tgt := 97) dX7_isThere_93 (by decide) ?_
          refine pv_istore_3 (pc := 97) dX7_isThere_97 (by decide) rfl ?_
          refine pv_iinc_4 (pc := 98) (v := _ + 1) dX7_isThere_98 rfl (by decide) rfl ?_
          refine pv_goto (pc := 101) (tgt := 19) dX7_isThere_101 (by decide) ?_
          rw [i_inc]
          have e : (r && x_th a b aim i (bg.drop i)) = (true && x_th a b aim (i + 1) (bg.drop (i + 1))) := by
            rw [hr, Bool.true_and, hdr, x_th]
            congr 1
            have f1 := h45
            have f3 := h81
            rw [ei, z1, ha] at f1
            rw [hm] at f3
            simp_all
          rw [e]
          exact ih (i + 1) true _ (by omega)
        · refine pv_iconst (pc := 84) (v := 1) dX7_isThere_84 (by decide) ?_
          refine pv_goto (pc := 85) (tgt := 89) dX7_isThere_85 (by decide) ?_
          refine pv_icmp_ne (pc := 89) (tgt := 96) dX7_isThere_89 (by decide) (fun _ => ?_) (fun q => absurd q (by decide))
          refine pv_iconst (pc := 96) (v := 0) dX7_isThere_96 (by decide) ?_
          refine pv_istore_3 (pc := 97) dX7_isThere_97 (by decide) rfl ?_
          refine pv_iinc_4 (pc := 98) (v := _ + 1) dX7_isThere_98 rfl (by decide) rfl ?_
          refine pv_goto (pc := 101) (tgt := 19) dX7_isThere_101 (by decide) ?_
          rw [i_inc]
          have e : (r && x_th a b aim i (bg.drop i)) = (false && x_th a b aim (i + 1) (bg.drop (i + 1))) := by
            rw [hr, Bool.true_and, hdr, x_th]
            congr 1
            have f1 := h45
            have f3 := h81
            rw [ei, z1, ha] at f1
            rw [hm] at f3
            simp_all
          rw [e]
          exact ih (i + 1) false _ (by omega)
      · refine pv_aload_0 (pc := 49) dX7_isThere_49 ?_
        refine pv_getR (pc := 50) dX7_isThere_50 fg_X7_15_7 rfl (by decide) (sx_29 hT) (rx_29_1 hR) ?_
        refine pv_iload_2 (pc := 53) dX7_isThere_53 ?_
        refine pv_iload_4 (pc := 54) dX7_isThere_54 ?_
        refine pv_iadd (pc := 56) dX7_isThere_56 ?_
        refine pv_topv2 (y := Int32.ofNat (4 * k + i)) (by rw [← Int32.ofNat_add]) ?_
        refine pv_laloadj (pc := 57) dX7_isThere_57 (by decide) (sx_31 hT) rfl (i_in (k := 4 * k + i) (by omega) (by decide)) ?_
        refine pv_aload_0 (pc := 58) dX7_isThere_58 ?_
        refine pv_getL (pc := 59) dX7_isThere_59 fg_X7_45_7 (by decide) (sx_29 hT) ?_
        refine pv_lcmp_ne (pc := 62) (tgt := 70) dX7_isThere_62 dX7_isThere_63 (by decide) (fun h62 => ?_) (fun h62 => ?_)
        · refine pv_iconst (pc := 70) (v := 0) dX7_isThere_70 (by decide) ?_
          refine pv_istore_5 (pc := 71) dX7_isThere_71 (by decide) rfl ?_
          refine pv_iload_5 (pc := 73) dX7_isThere_73 ?_
          refine pv_iload_4 (pc := 75) dX7_isThere_75 ?_
          refine pv_aload_0 (pc := 77) dX7_isThere_77 ?_
          refine pv_getI (pc := 78) dX7_isThere_78 fg_X7_38_7 rfl (by decide) (sx_29 hT) ?_
          refine pv_icmp_ne (pc := 81) (tgt := 88) dX7_isThere_81 (by decide) (fun h81 => ?_) (fun h81 => ?_)
          · refine pv_iconst (pc := 88) (v := 0) dX7_isThere_88 (by decide) ?_
            refine pv_icmp_ne (pc := 89) (tgt := 96) dX7_isThere_89 (by decide) (fun q => absurd q (by decide)) (fun _ => ?_)
            refine pv_iconst (pc := 92) (v := 1) dX7_isThere_92 (by decide) ?_
            refine pv_goto (pc := 93) (tgt := 97) dX7_isThere_93 (by decide) ?_
            refine pv_istore_3 (pc := 97) dX7_isThere_97 (by decide) rfl ?_
            refine pv_iinc_4 (pc := 98) (v := _ + 1) dX7_isThere_98 rfl (by decide) rfl ?_
            refine pv_goto (pc := 101) (tgt := 19) dX7_isThere_101 (by decide) ?_
            rw [i_inc]
            have e : (r && x_th a b aim i (bg.drop i)) = (true && x_th a b aim (i + 1) (bg.drop (i + 1))) := by
              rw [hr, Bool.true_and, hdr, x_th]
              congr 1
              have f1 := h45
              have f2 := h62
              have f3 := h81
              rw [ei, z1, ha] at f1
              rw [ei, z2, hb] at f2
              rw [hm] at f3
              simp_all
            rw [e]
            exact ih (i + 1) true _ (by omega)
          · refine pv_iconst (pc := 84) (v := 1) dX7_isThere_84 (by decide) ?_
            refine pv_goto (pc := 85) (tgt := 89) dX7_isThere_85 (by decide) ?_
            refine pv_icmp_ne (pc := 89) (tgt := 96) dX7_isThere_89 (by decide) (fun _ => ?_) (fun q => absurd q (by decide))
            refine pv_iconst (pc := 96) (v := 0) dX7_isThere_96 (by decide) ?_
            refine pv_istore_3 (pc := 97) dX7_isThere_97 (by decide) rfl ?_
            refine pv_iinc_4 (pc := 98) (v := _ + 1) dX7_isThere_98 rfl (by decide) rfl ?_
            refine pv_goto (pc := 101) (tgt := 19) dX7_isThere_101 (by decide) ?_
            rw [i_inc]
            have e : (r && x_th a b aim i (bg.drop i)) = (false && x_th a b aim (i + 1) (bg.drop (i + 1))) := by
              rw [hr, Bool.true_and, hdr, x_th]
              congr 1
              have f1 := h45
              have f2 := h62
              have f3 := h81
              rw [ei, z1, ha] at f1
              rw [ei, z2, hb] at f2
              rw [hm] at f3
              simp_all
            rw [e]
            exact ih (i + 1) false _ (by omega)
        · refine pv_iconst (pc := 66) (v := 1) dX7_isThere_66 (by decide) ?_
          refine pv_goto (pc := 67) (tgt := 71) dX7_isThere_67 (by decide) ?_
          refine pv_istore_5 (pc := 71) dX7_isThere_71 (by decide) rfl ?_
          refine pv_iload_5 (pc := 73) dX7_isThere_73 ?_
          refine pv_iload_4 (pc := 75) dX7_isThere_75 ?_
          refine pv_aload_0 (pc := 77) dX7_isThere_77 ?_
          refine pv_getI (pc := 78) dX7_isThere_78 fg_X7_38_7 rfl (by decide) (sx_29 hT) ?_
          refine pv_icmp_ne (pc := 81) (tgt := 88) dX7_isThere_81 (by decide) (fun h81 => ?_) (fun h81 => ?_)
          · refine pv_iconst (pc := 88) (v := 0) dX7_isThere_88 (by decide) ?_
            refine pv_icmp_ne (pc := 89) (tgt := 96) dX7_isThere_89 (by decide) (fun _ => ?_) (fun q => absurd q (by decide))
            refine pv_iconst (pc := 96) (v := 0) dX7_isThere_96 (by decide) ?_
            refine pv_istore_3 (pc := 97) dX7_isThere_97 (by decide) rfl ?_
            refine pv_iinc_4 (pc := 98) (v := _ + 1) dX7_isThere_98 rfl (by decide) rfl ?_
            refine pv_goto (pc := 101) (tgt := 19) dX7_isThere_101 (by decide) ?_
            rw [i_inc]
            have e : (r && x_th a b aim i (bg.drop i)) = (false && x_th a b aim (i + 1) (bg.drop (i + 1))) := by
              rw [hr, Bool.true_and, hdr, x_th]
              congr 1
              have f1 := h45
              have f2 := h62
              have f3 := h81
              rw [ei, z1, ha] at f1
              rw [ei, z2, hb] at f2
              rw [hm] at f3
              simp_all
            rw [e]
            exact ih (i + 1) false _ (by omega)
          · refine pv_iconst (pc := 84) (v := 1) dX7_isThere_84 (by decide) ?_
            refine pv_goto (pc := 85) (tgt := 89) dX7_isThere_85 (by decide) ?_
            refine pv_icmp_ne (pc := 89) (tgt := 96) dX7_isThere_89 (by decide) (fun q => absurd q (by decide)) (fun _ => ?_)
            refine pv_iconst (pc := 92) (v := 1) dX7_isThere_92 (by decide) ?_
            refine pv_goto (pc := 93) (tgt := 97) dX7_isThere_93 (by decide) ?_
            refine pv_istore_3 (pc := 97) dX7_isThere_97 (by decide) rfl ?_
            refine pv_iinc_4 (pc := 98) (v := _ + 1) dX7_isThere_98 rfl (by decide) rfl ?_
            refine pv_goto (pc := 101) (tgt := 19) dX7_isThere_101 (by decide) ?_
            rw [i_inc]
            have e : (r && x_th a b aim i (bg.drop i)) = (true && x_th a b aim (i + 1) (bg.drop (i + 1))) := by
              rw [hr, Bool.true_and, hdr, x_th]
              congr 1
              have f1 := h45
              have f2 := h62
              have f3 := h81
              rw [ei, z1, ha] at f1
              rw [ei, z2, hb] at f2
              rw [hm] at f3
              simp_all
            rw [e]
            exact ih (i + 1) true _ (by omega)

set_option maxRecDepth 100000 in
set_option maxHeartbeats 4000000 in
theorem c_X7_isThere {G : pv_G} {d : Nat} {k : Nat} {bg : ML} {aim : Int32} {a b : Int64} {t : pv_T} {I : pv_I} {L : pv_L} {Rf : pv_R} (hT : sh_ok t) (hR : rf_ok Rf) (hn : I 29 5 = Int32.ofNat bg.length) (hm : I 29 6 = aim) (ha : L 29 7 = a) (hb : L 29 8 = b) (hbl : bg.length ≤ 4) (hk : k ≤ 9) (hbg : sBg L k bg) : pv_Mt G mX7_isThere d 0 0 [.ref 29, .int (Int32.ofNat k)] t I L Rf (pv_is (some (.int (pv_b (x_th a b aim 0 bg)))) t I L Rf) := by
  refine pv_mt mgX7_isThere.2.2.2.2.2 [.ref 29, .int (Int32.ofNat k), .retAddr 0, .retAddr 0, .retAddr 0, .retAddr 0] rfl (Nat.le_of_ble_eq_true rfl) ?_
  refine pv_iload_1 (pc := 0) dX7_isThere_0 ?_
  refine pv_iconst (pc := 1) (v := 4) dX7_isThere_1 (by decide) ?_
  refine pv_imul (pc := 2) dX7_isThere_2 ?_
  refine pv_topv2 (y := Int32.ofNat (4 * k)) (by rw [Nat.mul_comm, Int32.ofNat_mul]; rfl) ?_
  refine pv_istore_2 (pc := 3) dX7_isThere_3 (by decide) rfl ?_
  refine pv_iload_1 (pc := 4) dX7_isThere_4 ?_
  refine pv_bipush (pc := 5) (v := 9) dX7_isThere_5 (by decide) ?_
  refine pv_icmp_gt (pc := 7) (tgt := 14) dX7_isThere_7 (by decide) (fun h7 => absurd h7 (by have e0 := i_of (k := k) (by omega); have q := x_lits; simp only [i_lt]; omega)) (fun h7 => ?_)
  refine pv_iconst (pc := 10) (v := 1) dX7_isThere_10 (by decide) ?_
  refine pv_goto (pc := 11) (tgt := 15) dX7_isThere_11 (by decide) ?_
  refine pv_istore_3 (pc := 15) dX7_isThere_15 (by decide) rfl ?_
  refine pv_iconst (pc := 16) (v := 0) dX7_isThere_16 (by decide) ?_
  refine pv_istore_4 (pc := 17) dX7_isThere_17 (by decide) rfl ?_
  have h := l_xth (d := d) (G := G) hT hR hn hm ha hb hbl hk hbg bg.length 0 true (.retAddr 0) (by omega)
  rw [Bool.true_and] at h
  exact h

set_option maxRecDepth 100000 in
set_option maxHeartbeats 4000000 in
theorem l_xsa {G : pv_G} {d k : Nat} {bg : ML} {s : Int32} {t : pv_T} {I : pv_I} {L0 : pv_L} {Rf : pv_R} (hT : sh_ok t) (hR : rf_ok Rf) (hn : I 29 5 = Int32.ofNat bg.length) (hbl : bg.length ≤ 4) (hk : k < 9) (hd : 3 ≤ d) (hbg : sBg L0 k bg) : ∀ (n i : Nat) (L : pv_L), i + n = bg.length → (sL k L0 L ∧ ∀ (j : Nat) x, j < i → (bg.map (s_stp s))[j]? = some x → L 30 (4 * (k + 1) + j) = x.1 ∧ L 31 (4 * (k + 1) + j) = x.2) → pv_V G mX7_stepAll d 0 0 (fun v t1 I1 L1 R1 => v = none ∧ t1 = t ∧ I1 = I ∧ R1 = Rf ∧ sL k L0 L1 ∧ sBg L1 (k + 1) (bg.map (s_stp s))) 0 0 7 [.ref 29, .int (Int32.ofNat k), .int s, .int (Int32.ofNat (4 * k)), .int (Int32.ofNat i)] [] t I L Rf := by
  intro n
  induction n with
  | zero =>
    intro i L hi hL
    skip
    refine pv_iload_1 (pc := 7) dX7_stepAll_7 ?_
    refine pv_bipush (pc := 8) (v := 9) dX7_stepAll_8 (by decide) ?_
    refine pv_icmp_ge (pc := 10) (tgt := 94) dX7_stepAll_10 (by decide) (fun h10 => absurd h10 (by have e0 := i_of (k := k) (by omega); have q := x_lits; simp only [i_lt]; omega)) (fun h10 => ?_)
    refine pv_iload_4 (pc := 13) dX7_stepAll_13 ?_
    refine pv_aload_0 (pc := 15) dX7_stepAll_15 ?_
    refine pv_getI (pc := 16) dX7_stepAll_16 fg_X7_28_7 rfl (by decide) (sx_29 hT) ?_
    refine pv_icmp_ge (pc := 19) (tgt := 94) dX7_stepAll_19 (by decide) (fun h19 => ?_) (fun h19 => absurd h19 (by rw [hn]; have e0 := i_of (k := i) (by omega); have e1 := i_of (k := bg.length) (by omega); have q := x_lits; simp only [i_lt]; omega))
    refine pv_vret (pc := 94) dX7_stepAll_94 rfl ?_
    refine ⟨rfl, rfl, rfl, rfl, hL.1, fun j x hx => hL.2 j x ?_ hx⟩
    have := (List.getElem?_eq_some_iff.mp hx).1
    rw [List.length_map] at this
    omega
  | succ n ih =>
    intro i L hi hL
    skip
    refine pv_iload_1 (pc := 7) dX7_stepAll_7 ?_
    refine pv_bipush (pc := 8) (v := 9) dX7_stepAll_8 (by decide) ?_
    refine pv_icmp_ge (pc := 10) (tgt := 94) dX7_stepAll_10 (by decide) (fun h10 => absurd h10 (by have e0 := i_of (k := k) (by omega); have q := x_lits; simp only [i_lt]; omega)) (fun h10 => ?_)
    refine pv_iload_4 (pc := 13) dX7_stepAll_13 ?_
    refine pv_aload_0 (pc := 15) dX7_stepAll_15 ?_
    refine pv_getI (pc := 16) dX7_stepAll_16 fg_X7_28_7 rfl (by decide) (sx_29 hT) ?_
    refine pv_icmp_ge (pc := 19) (tgt := 94) dX7_stepAll_19 (by decide) (fun h19 => absurd h19 (by rw [hn]; have e0 := i_of (k := i) (by omega); have e1 := i_of (k := bg.length) (by omega); have q := x_lits; simp only [i_lt]; omega)) (fun h19 => ?_)
    have ei := i_nat (k := 4 * k + i) (by omega)
    have en := i_nat (k := 4 * k + 4 + i) (by omega)
    obtain ⟨z, hz⟩ := bg_at (bg := bg) (j := i) (by omega)
    obtain ⟨z1, z2⟩ := hbg i z hz
    obtain ⟨i1, i2⟩ := hL
    refine pv_aload_0 (pc := 22) dX7_stepAll_22 ?_
    refine pv_getR (pc := 23) dX7_stepAll_23 fg_X7_9_7 rfl (by decide) (sx_29 hT) (rx_29_0 hR) ?_
    refine pv_iload_3 (pc := 26) dX7_stepAll_26 ?_
    refine pv_iconst (pc := 27) (v := 4) dX7_stepAll_27 (by decide) ?_
    refine pv_iadd (pc := 28) dX7_stepAll_28 ?_
    refine pv_iload_4 (pc := 29) dX7_stepAll_29 ?_
    refine pv_iadd (pc := 31) dX7_stepAll_31 ?_
    refine pv_topv2 (y := Int32.ofNat (4 * k + 4 + i)) (by rw [show (4 : Int32) = Int32.ofNat 4 from rfl, ← Int32.ofNat_add, ← Int32.ofNat_add]) ?_
    refine pv_iload_2 (pc := 32) dX7_stepAll_32 ?_
    refine pv_aload_0 (pc := 33) dX7_stepAll_33 ?_
    refine pv_getR (pc := 34) dX7_stepAll_34 fg_X7_9_7 rfl (by decide) (sx_29 hT) (rx_29_0 hR) ?_
    refine pv_iload_3 (pc := 37) dX7_stepAll_37 ?_
    refine pv_iload_4 (pc := 38) dX7_stepAll_38 ?_
    refine pv_iadd (pc := 40) dX7_stepAll_40 ?_
    refine pv_topv2 (y := Int32.ofNat (4 * k + i)) (by rw [← Int32.ofNat_add]) ?_
    refine pv_laloadj (pc := 41) dX7_stepAll_41 (by decide) (sx_30 hT) rfl (i_in (k := 4 * k + i) (by omega) (by decide)) ?_
    refine pv_aload_0 (pc := 42) dX7_stepAll_42 ?_
    refine pv_getR (pc := 43) dX7_stepAll_43 fg_X7_15_7 rfl (by decide) (sx_29 hT) (rx_29_1 hR) ?_
    refine pv_iload_3 (pc := 46) dX7_stepAll_46 ?_
    refine pv_iload_4 (pc := 47) dX7_stepAll_47 ?_
    refine pv_iadd (pc := 49) dX7_stepAll_49 ?_
    refine pv_topv2 (y := Int32.ofNat (4 * k + i)) (by rw [← Int32.ofNat_add]) ?_
    refine pv_laloadj (pc := 50) dX7_stepAll_50 (by decide) (sx_31 hT) rfl (i_in (k := 4 * k + i) (by omega) (by decide)) ?_
    refine pv_callSN1 (pc := 51) dX7_stepAll_51 mgX11_stepP lsn_X7_79 (by omega) (c_X11_stepP ) rfl rfl (Nat.le_of_ble_eq_true rfl) ?_
    refine pv_lastorej (pc := 54) dX7_stepAll_54 (by decide) (sx_30 hT) rfl (i_in (k := 4 * k + 4 + i) (by omega) (by decide)) ?_
    refine pv_aload_0 (pc := 55) dX7_stepAll_55 ?_
    refine pv_getR (pc := 56) dX7_stepAll_56 fg_X7_15_7 rfl (by decide) (sx_29 hT) (rx_29_1 hR) ?_
    refine pv_iload_3 (pc := 59) dX7_stepAll_59 ?_
    refine pv_iconst (pc := 60) (v := 4) dX7_stepAll_60 (by decide) ?_
    refine pv_iadd (pc := 61) dX7_stepAll_61 ?_
    refine pv_iload_4 (pc := 62) dX7_stepAll_62 ?_
    refine pv_iadd (pc := 64) dX7_stepAll_64 ?_
    refine pv_topv2 (y := Int32.ofNat (4 * k + 4 + i)) (by rw [show (4 : Int32) = Int32.ofNat 4 from rfl, ← Int32.ofNat_add, ← Int32.ofNat_add]) ?_
    refine pv_iload_2 (pc := 65) dX7_stepAll_65 ?_
    refine pv_aload_0 (pc := 66) dX7_stepAll_66 ?_
    refine pv_getR (pc := 67) dX7_stepAll_67 fg_X7_9_7 rfl (by decide) (sx_29 hT) (rx_29_0 hR) ?_
    refine pv_iload_3 (pc := 70) dX7_stepAll_70 ?_
    refine pv_iload_4 (pc := 71) dX7_stepAll_71 ?_
    refine pv_iadd (pc := 73) dX7_stepAll_73 ?_
    refine pv_topv2 (y := Int32.ofNat (4 * k + i)) (by rw [← Int32.ofNat_add]) ?_
    refine pv_laloadj (pc := 74) dX7_stepAll_74 (by decide) (sx_30 hT) rfl (i_in (k := 4 * k + i) (by omega) (by decide)) ?_
    refine pv_aload_0 (pc := 75) dX7_stepAll_75 ?_
    refine pv_getR (pc := 76) dX7_stepAll_76 fg_X7_15_7 rfl (by decide) (sx_29 hT) (rx_29_1 hR) ?_
    refine pv_iload_3 (pc := 79) dX7_stepAll_79 ?_
    refine pv_iload_4 (pc := 80) dX7_stepAll_80 ?_
    refine pv_iadd (pc := 82) dX7_stepAll_82 ?_
    refine pv_topv2 (y := Int32.ofNat (4 * k + i)) (by rw [← Int32.ofNat_add]) ?_
    refine pv_laloadj (pc := 83) dX7_stepAll_83 (by decide) (sx_31 hT) rfl (i_in (k := 4 * k + i) (by omega) (by decide)) ?_
    refine pv_callSN1 (pc := 84) dX7_stepAll_84 mgX11_stepQ lsn_X7_83 (by omega) (c_X11_stepQ (by omega)) rfl rfl (Nat.le_of_ble_eq_true rfl) ?_
    refine pv_lastorej (pc := 87) dX7_stepAll_87 (by decide) (sx_31 hT) rfl (i_in (k := 4 * k + 4 + i) (by omega) (by decide)) ?_
    refine pv_iinc_4 (pc := 88) (v := _ + 1) dX7_stepAll_88 rfl (by decide) rfl ?_
    refine pv_goto (pc := 91) (tgt := 7) dX7_stepAll_91 (by decide) ?_
    rw [i_inc, ei, en]
    refine ih (i + 1) _ (by omega) ⟨(i1.u 30 _ _ (by omega)).u 31 _ _ (by omega), fun j x hj hx => ?_⟩
    have y1 : L 30 (4 * k + i) = z.1 := (i1 30 _ (by omega)).trans z1
    have y2 : L 31 (4 * k + i) = z.2 := (i1 31 _ (by omega)).trans z2
    have y3 : pv_u L 30 (4 * k + 4 + i) (s_stepP s (L 30 (4 * k + i)) (L 31 (4 * k + i))) 30 (4 * k + i) = z.1 := by rw [pv_u_o _ (by omega)]; exact y1
    have y4 : pv_u L 30 (4 * k + 4 + i) (s_stepP s (L 30 (4 * k + i)) (L 31 (4 * k + i))) 31 (4 * k + i) = z.2 := by rw [pv_u_o _ (by omega)]; exact y2
    rw [y3, y4, y1, y2]
    by_cases e : j = i
    · subst e
      rw [map_at hz] at hx
      cases hx
      rw [pv_u_o _ (by omega), pv_u_eq, if_pos (by omega), pv_u_eq, if_pos (by omega)]
      exact ⟨rfl, rfl⟩
    · rw [pv_u_o _ (by omega), pv_u_o _ (by omega), pv_u_o _ (by omega), pv_u_o _ (by omega)]
      exact i2 j x (by omega) hx

set_option maxRecDepth 100000 in
set_option maxHeartbeats 4000000 in
theorem c_X7_stepAll {G : pv_G} {d : Nat} {k : Nat} {bg : ML} {s : Int32} {t : pv_T} {I : pv_I} {L : pv_L} {Rf : pv_R} (hT : sh_ok t) (hR : rf_ok Rf) (hn : I 29 5 = Int32.ofNat bg.length) (hbl : bg.length ≤ 4) (hk : k < 9) (hd : 3 ≤ d) (hbg : sBg L k bg) : pv_Mt G mX7_stepAll d 0 0 [.ref 29, .int (Int32.ofNat k), .int s] t I L Rf (fun v t1 I1 L1 R1 => v = none ∧ t1 = t ∧ I1 = I ∧ R1 = Rf ∧ sL k L L1 ∧ sBg L1 (k + 1) (bg.map (s_stp s))) := by
  refine pv_mt mgX7_stepAll.2.2.2.2.2 [.ref 29, .int (Int32.ofNat k), .int s, .retAddr 0, .retAddr 0] rfl (Nat.le_of_ble_eq_true rfl) ?_
  refine pv_iload_1 (pc := 0) dX7_stepAll_0 ?_
  refine pv_iconst (pc := 1) (v := 4) dX7_stepAll_1 (by decide) ?_
  refine pv_imul (pc := 2) dX7_stepAll_2 ?_
  refine pv_topv2 (y := Int32.ofNat (4 * k)) (by rw [Nat.mul_comm, Int32.ofNat_mul]; rfl) ?_
  refine pv_istore_3 (pc := 3) dX7_stepAll_3 (by decide) rfl ?_
  refine pv_iconst (pc := 4) (v := 0) dX7_stepAll_4 (by decide) ?_
  refine pv_istore_4 (pc := 5) dX7_stepAll_5 (by decide) rfl ?_
  exact l_xsa hT hR hn hbl hk hd hbg bg.length 0 L (by omega) ⟨sL.rf, fun j x hj _ => absurd hj (Nat.not_lt_zero _)⟩

set_option maxRecDepth 100000 in
set_option maxHeartbeats 4000000 in
theorem c_X7_keep {G : pv_G} {d : Nat} {k : Nat} {so : Int32} {t : pv_T} {I : pv_I} {L : pv_L} {Rf : pv_R} (hT : sh_ok t) (hR : rf_ok Rf) (hk : k ≤ 9) (hd : 1 ≤ d) : pv_Mt G mX7_keep d 0 0 [.ref 29, .int (Int32.ofNat k), .int so] t I L Rf (pv_is none t (pv_ur (pv_u (pv_u I 29 10 so) 29 11 (Int32.ofNat k)) 34 (va_cpy (I 33) (I 34) 0 0 k)) L Rf) := by
  refine pv_mt mgX7_keep.2.2.2.2.2 [.ref 29, .int (Int32.ofNat k), .int so] rfl (Nat.le_of_ble_eq_true rfl) ?_
  have ek := i_nat (k := k) (by omega)
  refine pv_aload_0 (pc := 0) dX7_keep_0 ?_
  refine pv_iload_2 (pc := 1) dX7_keep_1 ?_
  refine pv_putI (pc := 2) dX7_keep_2 fl_X7_32_7 (fun q => by cases q) ⟨rfl, rfl, rfl⟩ (by decide) (sx_29 hT) ?_
  refine pv_aload_0 (pc := 5) dX7_keep_5 ?_
  refine pv_iload_1 (pc := 6) dX7_keep_6 ?_
  refine pv_putI (pc := 7) dX7_keep_7 fl_X7_35_7 (fun q => by cases q) ⟨rfl, rfl, rfl⟩ (by decide) (sx_29 hT) ?_
  refine pv_iload_1 (pc := 10) dX7_keep_10 ?_
  refine pv_aload_0 (pc := 11) dX7_keep_11 ?_
  refine pv_getR (pc := 12) dX7_keep_12 fg_X7_25_7 rfl (by decide) (sx_29 hT) (rx_29_4 hR) ?_
  refine pv_alen (pc := 15) dX7_keep_15 (sx_34 hT) rfl ?_
  refine pv_icmp_gt (pc := 16) (tgt := 33) dX7_keep_16 (by decide) (fun h16 => absurd h16 (by have e0 := i_of (k := k) (by omega); have q := x_lits; simp only [i_lt]; omega)) (fun h16 => ?_)
  refine pv_aload_0 (pc := 19) dX7_keep_19 ?_
  refine pv_getR (pc := 20) dX7_keep_20 fg_X7_22_7 rfl (by decide) (sx_29 hT) (rx_29_3 hR) ?_
  refine pv_iconst (pc := 23) (v := 0) dX7_keep_23 (by decide) ?_
  refine pv_aload_0 (pc := 24) dX7_keep_24 ?_
  refine pv_getR (pc := 25) dX7_keep_25 fg_X7_25_7 rfl (by decide) (sx_29 hT) (rx_29_4 hR) ?_
  refine pv_iconst (pc := 28) (v := 0) dX7_keep_28 (by decide) ?_
  refine pv_iload_1 (pc := 29) dX7_keep_29 ?_
  refine pv_copyi (pc := 30) dX7_keep_30 cpl_X7_86 cp_1 cp_2 cp_3 (by decide) (by decide) (sx_33 hT) (sx_34 hT) (by decide) (by decide) (by rw [i_lt, i_of (by omega), Int32.toInt_zero]; omega) (by rw [ek]; show 0 + k ≤ 9; omega) (by rw [ek]; show 0 + k ≤ 9; omega) (by omega) (by decide) ?_
  refine pv_vret (pc := 33) dX7_keep_33 rfl ?_
  refine ⟨rfl, rfl, ?_, rfl, rfl⟩
  rw [show (0 : Int32).toNatClampNeg = 0 from rfl, ek]
  rfl

