/-! the class: words and numbers read -/
theorem x_wd_nth {i j : Nat} {x : Int32} {l : List Int32} (h : (x_wd i).drop j = x :: l) : (x_wd i)[j]? = some x ∧ (x_wd i).drop (j + 1) = l := by
  constructor
  · have := congrArg (fun z => z[0]?) h
    simp only [List.getElem?_drop, List.getElem?_cons_zero, Nat.add_zero] at this
    exact this
  · have := congrArg (fun z => z.drop 1) h
    simp only [List.drop_drop] at this
    exact this

set_option maxRecDepth 100000 in
set_option maxHeartbeats 4000000 in
theorem l_rdw {G : pv_G} {d k i e r0 : Nat} {c : Nat → Int32} {t : pv_T} {L : pv_L} {Rf : pv_R} {J0 : pv_I} (hF : fk_ok G) (hT : sh_ok t) (hR : rf_ok Rf) (hk8 : k < 8) (hi : i < 3) (hd : 6 ≤ d) : ∀ (l : List Int32) (j r : Nat) (I : pv_I), j ≤ (x_wd i).length → (x_wd i).drop j = l → tX c e k r I L → sF k J0 I → b_lit c e l r = b_lit c e (x_wd i) r0 → pv_V G mX8_readsWord d 0 0 (fun v t1 I1 L1 R1 => t1 = t ∧ L1 = L ∧ R1 = Rf ∧ sF k J0 I1 ∧ v = some (.int (pv_b (b_lit c e (x_wd i) r0).2)) ∧ I1 (45 + 2 * k) 4 = Int32.ofNat (b_lit c e (x_wd i) r0).1 ∧ ((b_lit c e (x_wd i) r0).2 = false → I1 (45 + 2 * k) 6 = Int32.ofNat (b_lit c e (x_wd i) r0).1)) 0 0 2 [.ref (45 + 2 * k), .ref (2 + i), .int (Int32.ofNat j)] [] t I L Rf := by
  have hwl := x_wd_len hi
  intro l
  induction l with
  | nil =>
    intro j r I hjl hdr hx hf hl
    have hj : (x_wd i).length ≤ j := by
      have := congrArg List.length hdr
      rw [List.length_drop, List.length_nil] at this; omega
    refine pv_iload_2 (pc := 2) dX8_readsWord_2 ?_
    refine pv_aload_1 (pc := 3) dX8_readsWord_3 ?_
    refine pv_callT1 (pc := 4) dX8_readsWord_4 mgJ0_length_8abf5 lt_X8_57 (by omega) (by omega) (c_J0_length_8abf5 hi (by omega)) rfl rfl (Nat.le_of_ble_eq_true rfl) ?_
    refine pv_icmp_ge (pc := 7) (tgt := 30) dX8_readsWord_7 (by decide) (fun h7 => ?_) (fun h7 => absurd h7 (by have e0 := i_of (k := j) (by omega); have e1 := i_of (k := (x_wd i).length) (by omega); simp only [i_lt]; omega))
    refine pv_iconst (pc := 30) (v := 1) dX8_readsWord_30 (by decide) ?_
    refine pv_iret (pc := 31) dX8_readsWord_31 rfl rfl ?_
    rw [b_lit] at hl
    rw [← hl]
    exact ⟨rfl, rfl, rfl, hf, rfl, hx.2.2.2.1, fun q => by cases q⟩
  | cons x l ih =>
    intro j r I hjl hdr hx hf hl
    obtain ⟨hx1, h2⟩ := x_wd_nth hdr
    have hj := (List.getElem?_eq_some_iff.mp hx1).1
    have he := hx.2.1
    by_cases hc : r < e ∧ c r = x
    · skip
      refine pv_iload_2 (pc := 2) dX8_readsWord_2 ?_
      refine pv_aload_1 (pc := 3) dX8_readsWord_3 ?_
      refine pv_callT1 (pc := 4) dX8_readsWord_4 mgJ0_length_8abf5 lt_X8_57 (by omega) (by omega) (c_J0_length_8abf5 hi (by omega)) rfl rfl (Nat.le_of_ble_eq_true rfl) ?_
      refine pv_icmp_ge (pc := 7) (tgt := 30) dX8_readsWord_7 (by decide) (fun h7 => absurd h7 (by have e0 := i_of (k := j) (by omega); have e1 := i_of (k := (x_wd i).length) (by omega); simp only [i_lt]; omega)) (fun h7 => ?_)
      refine pv_aload_0 (pc := 10) dX8_readsWord_10 ?_
      refine pv_aload_1 (pc := 11) dX8_readsWord_11 ?_
      refine pv_iload_2 (pc := 12) dX8_readsWord_12 ?_
      refine pv_callT1 (pc := 13) dX8_readsWord_13 mgJ0_charAt_5068e lt_X8_63 (by omega) (by omega) (c_J0_charAt_5068e hF hi hx1 (by omega)) rfl rfl (Nat.le_of_ble_eq_true rfl) ?_
      refine pv_callV1 (pc := 16) dX8_readsWord_16 mgX8_reads lv_X8_67_8 (by omega) (sx_sh hT hk8) (by omega) (c_reads_t hT hR hk8 hx hc.1 hc.2 (by omega)) rfl rfl (by decide) ?_
      refine pv_if_ne (pc := 19) (tgt := 24) dX8_readsWord_19 (by decide) (fun _ => ?_) (fun q => absurd q (by decide))
      refine pv_iinc_2 (pc := 24) (v := _ + 1) dX8_readsWord_24 rfl (by decide) rfl ?_
      refine pv_goto (pc := 27) (tgt := 2) dX8_readsWord_27 (by decide) ?_
      rw [i_inc]
      rw [b_lit, if_pos hc] at hl
      exact ih (j + 1) (r + 1) _ (by omega) h2 (hx.at (by omega)) (hf.u 4 _ (by omega)) hl
    · by_cases hre : r < e
      · skip
        refine pv_iload_2 (pc := 2) dX8_readsWord_2 ?_
        refine pv_aload_1 (pc := 3) dX8_readsWord_3 ?_
        refine pv_callT1 (pc := 4) dX8_readsWord_4 mgJ0_length_8abf5 lt_X8_57 (by omega) (by omega) (c_J0_length_8abf5 hi (by omega)) rfl rfl (Nat.le_of_ble_eq_true rfl) ?_
        refine pv_icmp_ge (pc := 7) (tgt := 30) dX8_readsWord_7 (by decide) (fun h7 => absurd h7 (by have e0 := i_of (k := j) (by omega); have e1 := i_of (k := (x_wd i).length) (by omega); simp only [i_lt]; omega)) (fun h7 => ?_)
        refine pv_aload_0 (pc := 10) dX8_readsWord_10 ?_
        refine pv_aload_1 (pc := 11) dX8_readsWord_11 ?_
        refine pv_iload_2 (pc := 12) dX8_readsWord_12 ?_
        refine pv_callT1 (pc := 13) dX8_readsWord_13 mgJ0_charAt_5068e lt_X8_63 (by omega) (by omega) (c_J0_charAt_5068e hF hi hx1 (by omega)) rfl rfl (Nat.le_of_ble_eq_true rfl) ?_
        refine pv_callV1 (pc := 16) dX8_readsWord_16 mgX8_reads lv_X8_67_8 (by omega) (sx_sh hT hk8) (by omega) (c_reads_n hT hR hk8 hx hre (fun q => hc ⟨hre, q⟩) (by omega)) rfl rfl (by decide) ?_
        refine pv_if_ne (pc := 19) (tgt := 24) dX8_readsWord_19 (by decide) (fun q => absurd q (by decide)) (fun _ => ?_)
        refine pv_iconst (pc := 22) (v := 0) dX8_readsWord_22 (by decide) ?_
        refine pv_iret (pc := 23) dX8_readsWord_23 rfl rfl ?_
        rw [b_lit, if_neg hc] at hl
        rw [← hl]
        exact ⟨rfl, rfl, rfl, hf.u 6 _ (by omega), rfl, by rw [pv_u_o _ (by omega)]; exact hx.2.2.2.1, fun _ => by rw [pv_u_eq, if_pos rfl]⟩
      · skip
        refine pv_iload_2 (pc := 2) dX8_readsWord_2 ?_
        refine pv_aload_1 (pc := 3) dX8_readsWord_3 ?_
        refine pv_callT1 (pc := 4) dX8_readsWord_4 mgJ0_length_8abf5 lt_X8_57 (by omega) (by omega) (c_J0_length_8abf5 hi (by omega)) rfl rfl (Nat.le_of_ble_eq_true rfl) ?_
        refine pv_icmp_ge (pc := 7) (tgt := 30) dX8_readsWord_7 (by decide) (fun h7 => absurd h7 (by have e0 := i_of (k := j) (by omega); have e1 := i_of (k := (x_wd i).length) (by omega); simp only [i_lt]; omega)) (fun h7 => ?_)
        refine pv_aload_0 (pc := 10) dX8_readsWord_10 ?_
        refine pv_aload_1 (pc := 11) dX8_readsWord_11 ?_
        refine pv_iload_2 (pc := 12) dX8_readsWord_12 ?_
        refine pv_callT1 (pc := 13) dX8_readsWord_13 mgJ0_charAt_5068e lt_X8_63 (by omega) (by omega) (c_J0_charAt_5068e hF hi hx1 (by omega)) rfl rfl (Nat.le_of_ble_eq_true rfl) ?_
        refine pv_callV1 (pc := 16) dX8_readsWord_16 mgX8_reads lv_X8_67_8 (by omega) (sx_sh hT hk8) (by omega) (c_reads_e hT hR hk8 hx hre (by omega)) rfl rfl (by decide) ?_
        refine pv_if_ne (pc := 19) (tgt := 24) dX8_readsWord_19 (by decide) (fun q => absurd q (by decide)) (fun _ => ?_)
        refine pv_iconst (pc := 22) (v := 0) dX8_readsWord_22 (by decide) ?_
        refine pv_iret (pc := 23) dX8_readsWord_23 rfl rfl ?_
        rw [b_lit, if_neg hc] at hl
        rw [← hl]
        exact ⟨rfl, rfl, rfl, hf.u 6 _ (by omega), rfl, by rw [pv_u_o _ (by omega)]; exact hx.2.2.2.1, fun _ => by rw [pv_u_eq, if_pos rfl]⟩

set_option maxRecDepth 100000 in
set_option maxHeartbeats 4000000 in
theorem c_X8_readsWord {G : pv_G} {d : Nat} {c : Nat → Int32} {e r i : Nat} {k : Nat} {t : pv_T} {I : pv_I} {L : pv_L} {Rf : pv_R} (hT : sh_ok t) (hR : rf_ok Rf) (hk8 : k < 8) (hF : fk_ok G) (hi : i < 3) (hx : tX c e k r I L) (hd : 6 ≤ d) : pv_Mt G mX8_readsWord d 0 0 [.ref (45 + 2 * k), .ref (2 + i)] t I L Rf (fun v t1 I1 L1 R1 => t1 = t ∧ L1 = L ∧ R1 = Rf ∧ sF k I I1 ∧ v = some (.int (pv_b (b_lit c e (x_wd i) r).2)) ∧ I1 (45 + 2 * k) 4 = Int32.ofNat (b_lit c e (x_wd i) r).1 ∧ ((b_lit c e (x_wd i) r).2 = false → I1 (45 + 2 * k) 6 = Int32.ofNat (b_lit c e (x_wd i) r).1)) := by
  refine pv_mt mgX8_readsWord.2.2.2.2.2 [.ref (45 + 2 * k), .ref (2 + i), .retAddr 0] rfl (Nat.le_of_ble_eq_true rfl) ?_
  refine pv_iconst (pc := 0) (v := 0) dX8_readsWord_0 (by decide) ?_
  refine pv_istore_2 (pc := 1) dX8_readsWord_1 (by decide) rfl ?_
  exact l_rdw hF hT hR hk8 hi hd (x_wd i) 0 r I (Nat.zero_le _) rfl hx sF.rf rfl

theorem b_dg_b {c : Nat → Int32} {e : Nat} : ∀ (m r : Nat) (x : Int32) (b : Int), 0 ≤ x.toInt → x.toInt < b → b * 10 ^ m ≤ 100000 → 0 ≤ (b_dg c e m r x).2.toInt ∧ (b_dg c e m r x).2.toInt < b * 10 ^ m
  | 0, r, x, b, h0, h1, h2 => by rw [b_dg]; exact ⟨h0, by rw [Int.pow_zero, Int.mul_one]; exact h1⟩
  | m + 1, r, x, b, h0, h1, h2 => by
    have hp : (1 : Int) ≤ 10 ^ m := Int.pow_pos (by decide : (0 : Int) < 10)
    have hb : b * 1 ≤ b * 10 ^ m := Int.mul_le_mul_of_nonneg_left hp (by omega)
    rw [Int.pow_succ] at h2 ⊢
    have e1 : b * (10 ^ m * 10) = 10 * b * 10 ^ m := by grind
    rw [e1] at h2 ⊢
    have hb10 : 10 * b ≤ 100000 := by
      have : 10 * b * 1 ≤ 10 * b * 10 ^ m := Int.mul_le_mul_of_nonneg_left hp (by omega)
      omega
    rw [b_dg]
    split
    · next hd =>
      simp only [b_isD, Bool.and_eq_true, decide_eq_true_eq, i_le, (show (48 : Int32).toInt = 48 from by decide), (show (57 : Int32).toInt = 57 from by decide)] at hd
      have ex : (10 * x + c r - 48).toInt = 10 * x.toInt + (c r).toInt - 48 := by
        rw [Int32.toInt_sub, Int32.toInt_add, Int32.toInt_mul, show (10 : Int32).toInt = 10 by decide, show (48 : Int32).toInt = 48 by decide, bm32 (a := 10 * x.toInt) (by omega), bm32 (a := 10 * x.toInt + (c r).toInt) (by omega), bm32 (by omega)]
      exact b_dg_b m (r + 1) _ (10 * b) (by rw [ex]; omega) (by rw [ex]; omega) h2
    · refine ⟨h0, ?_⟩
      show x.toInt < 10 * b * 10 ^ m
      have : 10 * b * 1 ≤ 10 * b * 10 ^ m := Int.mul_le_mul_of_nonneg_left hp (by omega)
      omega
def x_rn (c : Nat → Int32) (e r : Nat) : Option (Nat × Int32) := if r < e ∧ c r = 32 then (if b_isD c e (r + 1) = true then some (b_dg c e 3 (r + 1) 0) else none) else none
def x_rf (c : Nat → Int32) (e r : Nat) : Nat := if r < e ∧ c r = 32 then r + 1 else r
def q_rn (c : Nat → Int32) (e k r : Nat) (t : pv_T) (I : pv_I) (L : pv_L) (Rf : pv_R) : pv_Q := fun v t1 I1 L1 R1 => t1 = t ∧ L1 = L ∧ R1 = Rf ∧ sF k I I1 ∧ ((∃ p : Nat × Int32, x_rn c e r = some p ∧ v = some (.int p.2) ∧ 0 ≤ p.2.toInt ∧ p.2.toInt < 1000 ∧ I1 (45 + 2 * k) 4 = Int32.ofNat p.1 ∧ I1 (45 + 2 * k) 5 = Int32.ofNat (r + 1) ∧ p.1 ≤ e ∧ r + 1 < p.1) ∨ (x_rn c e r = none ∧ v = some (.int (-1)) ∧ I1 (45 + 2 * k) 6 = Int32.ofNat (x_rf c e r)))
