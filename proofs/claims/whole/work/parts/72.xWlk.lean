/-! the class: the search's walk -/
def P_wlk (G : pv_G) (t : pv_T) (Rf : pv_R) (c : Int32 → Int32) (aim : Int32) (a b : Int64) (M m : Nat) : Prop := ∀ (d : Nat) (w : List Int32) (so : Int32) (I : pv_I) (L : pv_L) (bg : ML) (bs : BS), w.length + m = M → 2 * m + 6 ≤ d → 0 ≤ so.toInt → so.toInt + 9 * m ≤ 900 → bg.length ≤ 4 → sK I L c bg.length aim a b M → sBg L w.length bg → sW I w → sB I bs → pv_Mt G mX7_walk d 0 0 [.ref 29, .int (Int32.ofNat w.length), .int so] t I L Rf (fun v t1 I1 L1 R1 => v = none ∧ t1 = t ∧ R1 = Rf ∧ sI w.length I I1 ∧ sL w.length L L1 ∧ sB I1 (x_wlk (x_th a b aim 0) c m w so bg bs))
theorem cs_ok {c : Int32 → Int32} {I : pv_I} {s : Int32} (hs : s = 0 ∨ s = 1 ∨ s = 2) (h0 : I 32 0 = c 0) (h1 : I 32 1 = c 1) (h2 : I 32 2 = c 2) : I 32 s.toNatClampNeg = c s := by
  rcases hs with rfl | rfl | rfl
  · exact h0
  · exact h1
  · exact h2
theorem sB_keep {I : pv_I} {w : List Int32} {so : Int32} (hw : sW I w) (hk : w.length ≤ 9) : sB (pv_ur (pv_u (pv_u I 29 10 so) 29 11 (Int32.ofNat w.length)) 34 (va_cpy (I 33) (I 34) 0 0 w.length)) (some (w, so)) := by
  refine ⟨hk, ?_, ?_, fun j x hx => ?_⟩
  · rw [pv_ur_ne _ _ (by decide), pv_u_eq, if_pos rfl]
  · rw [pv_ur_ne _ _ (by decide), pv_u_o _ (by decide), pv_u_eq, if_pos rfl]
  · have hj : j < w.length := (List.getElem?_eq_some_iff.mp hx).1
    rw [pv_ur_app, if_pos rfl]
    unfold va_cpy
    rw [if_pos (by omega), show 0 + (j - 0) = j by omega]
    exact hw j x hx

set_option maxRecDepth 100000 in
set_option maxHeartbeats 4000000 in
theorem c_won0 {G : pv_G} {d n : Nat} {c : Int32 → Int32} {aim : Int32} {a b : Int64} {M : Nat} {w : List Int32} {so s : Int32} {t : pv_T} {I : pv_I} {L : pv_L} {Rf : pv_R} (hT : sh_ok t) (hR : rf_ok Rf) (hM : M ≤ 9) (hm : w.length = M) (hK : sK I L c n aim a b M) : pv_Mt G mX7_walkOn d 0 0 [.ref 29, .int (Int32.ofNat w.length), .int so, .int s] t I L Rf (pv_is none t I L Rf) := by
  refine pv_mt mgX7_walkOn.2.2.2.2.2 [.ref 29, .int (Int32.ofNat w.length), .int so, .int s] rfl (Nat.le_of_ble_eq_true rfl) ?_
  refine pv_iload_1 (pc := 0) dX7_walkOn_0 ?_
  refine pv_aload_0 (pc := 1) dX7_walkOn_1 ?_
  refine pv_getI (pc := 2) dX7_walkOn_2 fg_X7_54_7 rfl (by decide) (sx_29 hT) ?_
  refine pv_icmp_ge (pc := 5) (tgt := 54) dX7_walkOn_5 (by decide) (fun h5 => ?_) (fun h5 => absurd h5 (by rw [hK.2.2.2.2.1, i_lt, i_of (by omega), i_of (by omega)]; omega))
  refine pv_vret (pc := 54) dX7_walkOn_54 rfl ?_
  exact ⟨rfl, rfl, rfl, rfl, rfl⟩

set_option maxRecDepth 100000 in
set_option maxHeartbeats 4000000 in
theorem c_won1 {G : pv_G} {c : Int32 → Int32} {aim : Int32} {a b : Int64} {M m : Nat} {t : pv_T} {Rf : pv_R} (hT : sh_ok t) (hR : rf_ok Rf) (hM : M ≤ 9) (hc : c_ok c) (ih : P_wlk G t Rf c aim a b M m) {d : Nat} {w : List Int32} {so : Int32} {bg : ML} {J0 I : pv_I} {L0 L : pv_L} (hm : w.length + (m + 1) = M) (hd : 2 * m + 7 ≤ d) (h0 : 0 ≤ so.toInt) (h1 : so.toInt + 9 * ((m + 1 : Nat) : Int) ≤ 900) (hbl : bg.length ≤ 4) (hK : sK J0 L0 c bg.length aim a b M) (hbg : sBg L0 w.length bg) (hw : sW J0 w) {s : Int32} (hs : s = 0 ∨ s = 1 ∨ s = 2) {bs : BS} (hI : sI w.length J0 I) (hL : sL w.length L0 L) (hB : sB I bs) : pv_Mt G mX7_walkOn d 0 0 [.ref 29, .int (Int32.ofNat w.length), .int so, .int s] t I L Rf (fun v t1 I1 L1 R1 => v = none ∧ t1 = t ∧ R1 = Rf ∧ sI w.length J0 I1 ∧ sL w.length L0 L1 ∧ sB I1 (if w_und w s = true then bs else x_wlk (x_th a b aim 0) c m (w ++ [s]) (so + c s) (bg.map (s_stp s)) bs)) := by
  refine pv_mt mgX7_walkOn.2.2.2.2.2 [.ref 29, .int (Int32.ofNat w.length), .int so, .int s] rfl (Nat.le_of_ble_eq_true rfl) ?_
  have hK1 := hK.cg hI hL
  have hbg1 := hbg.cg hbl hL
  have hw1 := hw.cg hI
  have ek := i_nat (k := w.length) (by omega)
  refine pv_iload_1 (pc := 0) dX7_walkOn_0 ?_
  refine pv_aload_0 (pc := 1) dX7_walkOn_1 ?_
  refine pv_getI (pc := 2) dX7_walkOn_2 fg_X7_54_7 rfl (by decide) (sx_29 hT) ?_
  refine pv_icmp_ge (pc := 5) (tgt := 54) dX7_walkOn_5 (by decide) (fun h5 => absurd h5 (not_not_intro (by rw [hK1.2.2.2.2.1, i_lt, i_of (by omega), i_of (by omega)]; omega))) (fun h5 => ?_)
  refine pv_iload_1 (pc := 8) dX7_walkOn_8 ?_
  refine pv_aload_0 (pc := 9) dX7_walkOn_9 ?_
  refine pv_getR (pc := 10) dX7_walkOn_10 fg_X7_22_7 rfl (by decide) (sx_29 hT) (rx_29_3 hR) ?_
  refine pv_alen (pc := 13) dX7_walkOn_13 (sx_33 hT) rfl ?_
  refine pv_icmp_ge (pc := 14) (tgt := 54) dX7_walkOn_14 (by decide) (fun h14 => absurd h14 (not_not_intro (by have e0 := i_of (k := w.length) (by omega); have q := x_lits; simp only [i_lt]; omega))) (fun h14 => ?_)
  refine pv_aload_0 (pc := 17) dX7_walkOn_17 ?_
  refine pv_iload_1 (pc := 18) dX7_walkOn_18 ?_
  refine pv_iload_3 (pc := 19) dX7_walkOn_19 ?_
  refine pv_callV1 (pc := 20) dX7_walkOn_20 mgX7_isUndone lv_X7_72_7 (by decide) (sx_29 hT) (by omega) (c_X7_isUndone hT hR hs hw1 rfl (by omega)) rfl rfl (by decide) ?_
  refine pv_if_ne (pc := 23) (tgt := 54) dX7_walkOn_23 (by decide) (fun h23 => ?_) (fun h23 => ?_)
  · refine pv_vret (pc := 54) dX7_walkOn_54 rfl ?_
    first
      | exact ⟨rfl, rfl, rfl, hI, hL, by rw [if_pos ((pv_b_n0 _).mp h23)]; exact hB⟩
      | exact ⟨rfl, rfl, rfl, hI2.tr (hI5.mono (by omega)), hL4.tr (hL5.mono (by omega)), by rw [if_neg hu]; exact hB5⟩
  · refine pv_aload_0 (pc := 26) dX7_walkOn_26 ?_
    refine pv_getR (pc := 27) dX7_walkOn_27 fg_X7_22_7 rfl (by decide) (sx_29 hT) (rx_29_3 hR) ?_
    refine pv_iload_1 (pc := 30) dX7_walkOn_30 ?_
    refine pv_iload_3 (pc := 31) dX7_walkOn_31 ?_
    refine pv_iastorej (pc := 32) dX7_walkOn_32 (by decide) (sx_33 hT) rfl (i_in (k := w.length) (by omega) (by decide)) ?_
    rw [ek]
    have hu : ¬ w_und w s = true := fun q => absurd h23 (by rw [q]; decide)
    have hI2 : sI w.length J0 (pv_u I 33 w.length s) := hI.u 33 _ _ (by omega)
    have hK2 := hK.cg hI2 hL
    have hB4 : sB (pv_u I 33 w.length s) bs := hB.cg (pv_u_o _ (by omega)) (pv_u_o _ (by omega)) (fun _ => pv_u_o _ (by omega))
    have hw4 : sW (pv_u I 33 w.length s) (w ++ [s]) := hw1.app (fun j hj => pv_u_o _ (by omega)) (by rw [pv_u_eq, if_pos rfl])
    refine pv_aload_0 (pc := 33) dX7_walkOn_33 ?_
    refine pv_iload_1 (pc := 34) dX7_walkOn_34 ?_
    refine pv_iload_3 (pc := 35) dX7_walkOn_35 ?_
    refine pv_callVq (pc := 36) dX7_walkOn_36 mgX7_stepAll lv_X7_76_7 (by decide) (sx_29 hT) (by omega) (c_X7_stepAll (bg := bg) (d := d - 1) hT hR hK2.1 hbl (by omega) (by omega) hbg1) rfl rfl (by decide) (fun v t I L Rf hq => ?_)
    obtain ⟨rfl, rfl, rfl, rfl, hL3, hbg3⟩ := hq
    have hL4 : sL w.length L0 L := hL.tr hL3
    have hK4 := hK.cg hI2 hL4
    refine pv_aload_0 (pc := 39) dX7_walkOn_39 ?_
    refine pv_iload_1 (pc := 40) dX7_walkOn_40 ?_
    refine pv_iconst (pc := 41) (v := 1) dX7_walkOn_41 (by decide) ?_
    refine pv_iadd (pc := 42) dX7_walkOn_42 ?_
    refine pv_topv2 (y := Int32.ofNat (w ++ [s]).length) (by rw [List.length_append, List.length_singleton]; exact i_inc _) ?_
    refine pv_iload_2 (pc := 43) dX7_walkOn_43 ?_
    refine pv_aload_0 (pc := 44) dX7_walkOn_44 ?_
    refine pv_getR (pc := 45) dX7_walkOn_45 fg_X7_18_7 rfl (by decide) (sx_29 hT) (rx_29_2 hR) ?_
    refine pv_iload_3 (pc := 48) dX7_walkOn_48 ?_
    refine pv_ialoadj (pc := 49) dX7_walkOn_49 (sx_32 hT) rfl (s012 hs).1 ?_
    refine pv_iadd (pc := 50) dX7_walkOn_50 ?_
    refine pv_topv2 (y := so + c s) (by rw [cs_ok (c := c) hs hK4.2.2.2.2.2.1 hK4.2.2.2.2.2.2.1 hK4.2.2.2.2.2.2.2]) ?_
    refine pv_callVq (pc := 51) dX7_walkOn_51 mgX7_walk lv_X7_57_7 (by decide) (sx_29 hT) (by omega) (ih (d - 1) (w ++ [s]) (so + c s) _ _ (bg.map (s_stp s)) bs (by rw [List.length_append, List.length_singleton]; omega) (by omega) (by have := hc s; rw [i32a (by omega) (by omega) (by omega) (by omega)]; omega) (by have := hc s; rw [i32a (by omega) (by omega) (by omega) (by omega)]; omega) (by rw [List.length_map]; exact hbl) (by rw [List.length_map]; exact hK4) (by rw [List.length_append, List.length_singleton]; exact hbg3) hw4 hB4) rfl rfl (by decide) (fun v t I L Rf hq => ?_)
    obtain ⟨rfl, rfl, rfl, hI5, hL5, hB5⟩ := hq
    rw [List.length_append, List.length_singleton] at hI5 hL5
    refine pv_vret (pc := 54) dX7_walkOn_54 rfl ?_
    first
      | exact ⟨rfl, rfl, rfl, hI, hL, by rw [if_pos ((pv_b_n0 _).mp h23)]; exact hB⟩
      | exact ⟨rfl, rfl, rfl, hI2.tr (hI5.mono (by omega)), hL4.tr (hL5.mono (by omega)), by rw [if_neg hu]; exact hB5⟩

set_option maxRecDepth 100000 in
set_option maxHeartbeats 4000000 in
theorem l_wlk {G : pv_G} {c : Int32 → Int32} {aim : Int32} {a b : Int64} {M : Nat} {t : pv_T} {Rf : pv_R} (hT : sh_ok t) (hR : rf_ok Rf) (hM : M ≤ 9) (hc : c_ok c) : ∀ m, P_wlk G t Rf c aim a b M m := by
  intro m
  induction m with
  | zero =>
    intro d w so I L bg bs hm hd h0 h1 hbl hK hbg hw hB
    refine pv_mt mgX7_walk.2.2.2.2.2 [.ref 29, .int (Int32.ofNat w.length), .int so, .retAddr 0] rfl (Nat.le_of_ble_eq_true rfl) ?_
    have hbi := sB_bet hB (so := so) (k := w.length) (by omega) (by omega)
    have H25 : w_bet so w.length bs = true → pv_V G mX7_walk d 0 0 (fun v t1 I1 L1 R1 => v = none ∧ t1 = t ∧ R1 = Rf ∧ sI w.length I I1 ∧ sL w.length L L1 ∧ sB I1 (x_wlk (x_th a b aim 0) c 0 w so bg bs)) 0 0 25 [.ref 29, .int (Int32.ofNat w.length), .int so, .retAddr 0] [] t I L Rf := by
      intro hbet
      skip
      refine pv_aload_0 (pc := 25) dX7_walk_25 ?_
      refine pv_iload_1 (pc := 26) dX7_walk_26 ?_
      refine pv_callV1 (pc := 27) dX7_walk_27 mgX7_isThere lv_X7_61_7 (by decide) (sx_29 hT) (by omega) (c_X7_isThere (bg := bg) hT hR hK.1 hK.2.1 hK.2.2.1 hK.2.2.2.1 hbl (by omega) hbg) rfl rfl (by decide) ?_
      refine pv_if_eq (pc := 30) (tgt := 40) dX7_walk_30 (by decide) (fun h30 => ?_) (fun h30 => ?_)
      · refine pv_iconst (pc := 40) (v := 0) dX7_walk_40 (by decide) ?_
        refine pv_istore_3 (pc := 41) dX7_walk_41 (by decide) rfl ?_
        refine pv_iload_3 (pc := 42) dX7_walk_42 ?_
        refine pv_iconst (pc := 43) (v := 2) dX7_walk_43 (by decide) ?_
        refine pv_icmp_gt (pc := 44) (tgt := 60) dX7_walk_44 (by decide) (fun q => absurd q (by decide)) (fun _ => ?_)
        refine pv_aload_0 (pc := 47) dX7_walk_47 ?_
        refine pv_iload_1 (pc := 48) dX7_walk_48 ?_
        refine pv_iload_2 (pc := 49) dX7_walk_49 ?_
        refine pv_iload_3 (pc := 50) dX7_walk_50 ?_
        refine pv_callV0 (pc := 51) dX7_walk_51 mgX7_walkOn lv_X7_68_7 (by decide) (sx_29 hT) (by omega) (c_won0 hT hR hM (by omega) hK) rfl rfl (by decide) ?_
        refine pv_iinc_3 (pc := 54) (v := 1) dX7_walk_54 (by decide) (by decide) rfl ?_
        refine pv_goto (pc := 57) (tgt := 42) dX7_walk_57 (by decide) ?_
        refine pv_iload_3 (pc := 42) dX7_walk_42 ?_
        refine pv_iconst (pc := 43) (v := 2) dX7_walk_43 (by decide) ?_
        refine pv_icmp_gt (pc := 44) (tgt := 60) dX7_walk_44 (by decide) (fun q => absurd q (by decide)) (fun _ => ?_)
        refine pv_aload_0 (pc := 47) dX7_walk_47 ?_
        refine pv_iload_1 (pc := 48) dX7_walk_48 ?_
        refine pv_iload_2 (pc := 49) dX7_walk_49 ?_
        refine pv_iload_3 (pc := 50) dX7_walk_50 ?_
        refine pv_callV0 (pc := 51) dX7_walk_51 mgX7_walkOn lv_X7_68_7 (by decide) (sx_29 hT) (by omega) (c_won0 hT hR hM (by omega) hK) rfl rfl (by decide) ?_
        refine pv_iinc_3 (pc := 54) (v := 2) dX7_walk_54 (by decide) (by decide) rfl ?_
        refine pv_goto (pc := 57) (tgt := 42) dX7_walk_57 (by decide) ?_
        refine pv_iload_3 (pc := 42) dX7_walk_42 ?_
        refine pv_iconst (pc := 43) (v := 2) dX7_walk_43 (by decide) ?_
        refine pv_icmp_gt (pc := 44) (tgt := 60) dX7_walk_44 (by decide) (fun q => absurd q (by decide)) (fun _ => ?_)
        refine pv_aload_0 (pc := 47) dX7_walk_47 ?_
        refine pv_iload_1 (pc := 48) dX7_walk_48 ?_
        refine pv_iload_2 (pc := 49) dX7_walk_49 ?_
        refine pv_iload_3 (pc := 50) dX7_walk_50 ?_
        refine pv_callV0 (pc := 51) dX7_walk_51 mgX7_walkOn lv_X7_68_7 (by decide) (sx_29 hT) (by omega) (c_won0 hT hR hM (by omega) hK) rfl rfl (by decide) ?_
        refine pv_iinc_3 (pc := 54) (v := 3) dX7_walk_54 (by decide) (by decide) rfl ?_
        refine pv_goto (pc := 57) (tgt := 42) dX7_walk_57 (by decide) ?_
        refine pv_iload_3 (pc := 42) dX7_walk_42 ?_
        refine pv_iconst (pc := 43) (v := 2) dX7_walk_43 (by decide) ?_
        refine pv_icmp_gt (pc := 44) (tgt := 60) dX7_walk_44 (by decide) (fun _ => ?_) (fun q => absurd q (by decide))
        refine pv_vret (pc := 60) dX7_walk_60 rfl ?_
        have hf : ¬ x_th a b aim 0 bg = true := fun q => absurd h30 (by rw [q]; decide)
        exact ⟨rfl, rfl, rfl, sI.rf, sL.rf, by rw [x_wlk, if_pos hbet, if_neg hf]; exact hB⟩
      · refine pv_aload_0 (pc := 33) dX7_walk_33 ?_
        refine pv_iload_1 (pc := 34) dX7_walk_34 ?_
        refine pv_iload_2 (pc := 35) dX7_walk_35 ?_
        refine pv_callV0 (pc := 36) dX7_walk_36 mgX7_keep lv_X7_65_7 (by decide) (sx_29 hT) (by omega) (c_X7_keep hT hR (by omega) (by omega)) rfl rfl (by decide) ?_
        refine pv_vret (pc := 39) dX7_walk_39 rfl ?_
        refine ⟨rfl, rfl, rfl, fun a j q1 q2 q3 => ?_, sL.rf, ?_⟩
        · rw [pv_ur_ne _ _ q2, pv_u_o _ (by omega), pv_u_o _ (by omega)]
        · have e : x_wlk (x_th a b aim 0) c 0 w so bg bs = some (w, so) := by rw [x_wlk, if_pos hbet, if_pos ((pv_b_n0 _).mp h30)]
          rw [e]
          exact sB_keep hw (by omega)
    skip
    refine pv_iload_2 (pc := 0) dX7_walk_0 ?_
    refine pv_aload_0 (pc := 1) dX7_walk_1 ?_
    refine pv_getI (pc := 2) dX7_walk_2 fg_X7_32_7 rfl (by decide) (sx_29 hT) ?_
    refine pv_icmp_gt (pc := 5) (tgt := 24) dX7_walk_5 (by decide) (fun h5 => ?_) (fun h5 => ?_)
    · refine pv_vret (pc := 24) dX7_walk_24 rfl ?_
      have hbn : ¬ w_bet so w.length bs = true := fun q => by
        have q1 := hbi.mp q
        first
          | exact q1.1 h5
          | (have f1 := h13; have f2 := h21; exact f2 (q1.2 (by first | exact f1 | exact Classical.not_not.mp f1)))
      exact ⟨rfl, rfl, rfl, sI.rf, sL.rf, by rw [x_wlk, if_neg hbn]; exact hB⟩
    · refine pv_iload_2 (pc := 8) dX7_walk_8 ?_
      refine pv_aload_0 (pc := 9) dX7_walk_9 ?_
      refine pv_getI (pc := 10) dX7_walk_10 fg_X7_32_7 rfl (by decide) (sx_29 hT) ?_
      refine pv_icmp_ne (pc := 13) (tgt := 25) dX7_walk_13 (by decide) (fun h13 => ?_) (fun h13 => ?_)
      · exact H25 (hbi.mpr ⟨by first | exact h5 | exact h5, fun q => by first | exact absurd q h13 | exact h21 | exact Classical.not_not.mp h21⟩)
      · refine pv_iload_1 (pc := 16) dX7_walk_16 ?_
        refine pv_aload_0 (pc := 17) dX7_walk_17 ?_
        refine pv_getI (pc := 18) dX7_walk_18 fg_X7_35_7 rfl (by decide) (sx_29 hT) ?_
        refine pv_icmp_lt (pc := 21) (tgt := 25) dX7_walk_21 (by decide) (fun h21 => ?_) (fun h21 => ?_)
        · exact H25 (hbi.mpr ⟨by first | exact h5 | exact h5, fun q => by first | exact absurd q h13 | exact h21 | exact Classical.not_not.mp h21⟩)
        · refine pv_vret (pc := 24) dX7_walk_24 rfl ?_
          have hbn : ¬ w_bet so w.length bs = true := fun q => by
            have q1 := hbi.mp q
            first
              | exact q1.1 h5
              | (have f1 := h13; have f2 := h21; exact f2 (q1.2 (by first | exact f1 | exact Classical.not_not.mp f1)))
          exact ⟨rfl, rfl, rfl, sI.rf, sL.rf, by rw [x_wlk, if_neg hbn]; exact hB⟩
  | succ m ih =>
    intro d w so I L bg bs hm hd h0 h1 hbl hK hbg hw hB
    refine pv_mt mgX7_walk.2.2.2.2.2 [.ref 29, .int (Int32.ofNat w.length), .int so, .retAddr 0] rfl (Nat.le_of_ble_eq_true rfl) ?_
    have hbi := sB_bet hB (so := so) (k := w.length) (by omega) (by omega)
    have H25 : w_bet so w.length bs = true → pv_V G mX7_walk d 0 0 (fun v t1 I1 L1 R1 => v = none ∧ t1 = t ∧ R1 = Rf ∧ sI w.length I I1 ∧ sL w.length L L1 ∧ sB I1 (x_wlk (x_th a b aim 0) c (m + 1) w so bg bs)) 0 0 25 [.ref 29, .int (Int32.ofNat w.length), .int so, .retAddr 0] [] t I L Rf := by
      intro hbet
      skip
      refine pv_aload_0 (pc := 25) dX7_walk_25 ?_
      refine pv_iload_1 (pc := 26) dX7_walk_26 ?_
      refine pv_callV1 (pc := 27) dX7_walk_27 mgX7_isThere lv_X7_61_7 (by decide) (sx_29 hT) (by omega) (c_X7_isThere (bg := bg) hT hR hK.1 hK.2.1 hK.2.2.1 hK.2.2.2.1 hbl (by omega) hbg) rfl rfl (by decide) ?_
      refine pv_if_eq (pc := 30) (tgt := 40) dX7_walk_30 (by decide) (fun h30 => ?_) (fun h30 => ?_)
      · refine pv_iconst (pc := 40) (v := 0) dX7_walk_40 (by decide) ?_
        refine pv_istore_3 (pc := 41) dX7_walk_41 (by decide) rfl ?_
        refine pv_iload_3 (pc := 42) dX7_walk_42 ?_
        refine pv_iconst (pc := 43) (v := 2) dX7_walk_43 (by decide) ?_
        refine pv_icmp_gt (pc := 44) (tgt := 60) dX7_walk_44 (by decide) (fun q => absurd q (by decide)) (fun _ => ?_)
        refine pv_aload_0 (pc := 47) dX7_walk_47 ?_
        refine pv_iload_1 (pc := 48) dX7_walk_48 ?_
        refine pv_iload_2 (pc := 49) dX7_walk_49 ?_
        refine pv_iload_3 (pc := 50) dX7_walk_50 ?_
        refine pv_callVq (pc := 51) dX7_walk_51 mgX7_walkOn lv_X7_68_7 (by decide) (sx_29 hT) (by omega) (c_won1 (J0 := I) (L0 := L) (I := I) (L := L) hT hR hM hc ih hm (by omega) h0 h1 hbl hK hbg hw (Or.inl rfl) sI.rf sL.rf hB) rfl rfl (Nat.le_of_ble_eq_true rfl) (fun v1 t1 I1 L1 R1 hq => ?_)
        obtain ⟨rfl, rfl, rfl, a1, b1, c1⟩ := hq
        refine pv_iinc_3 (pc := 54) (v := 1) dX7_walk_54 (by decide) (by decide) rfl ?_
        refine pv_goto (pc := 57) (tgt := 42) dX7_walk_57 (by decide) ?_
        refine pv_iload_3 (pc := 42) dX7_walk_42 ?_
        refine pv_iconst (pc := 43) (v := 2) dX7_walk_43 (by decide) ?_
        refine pv_icmp_gt (pc := 44) (tgt := 60) dX7_walk_44 (by decide) (fun q => absurd q (by decide)) (fun _ => ?_)
        refine pv_aload_0 (pc := 47) dX7_walk_47 ?_
        refine pv_iload_1 (pc := 48) dX7_walk_48 ?_
        refine pv_iload_2 (pc := 49) dX7_walk_49 ?_
        refine pv_iload_3 (pc := 50) dX7_walk_50 ?_
        refine pv_callVq (pc := 51) dX7_walk_51 mgX7_walkOn lv_X7_68_7 (by decide) (sx_29 hT) (by omega) (c_won1 (J0 := I) (L0 := L) (I := I1) (L := L1) hT hR hM hc ih hm (by omega) h0 h1 hbl hK hbg hw (Or.inr (Or.inl rfl)) a1 b1 c1) rfl rfl (Nat.le_of_ble_eq_true rfl) (fun v2 t2 I2 L2 R2 hq => ?_)
        obtain ⟨rfl, rfl, rfl, a2, b2, c2⟩ := hq
        refine pv_iinc_3 (pc := 54) (v := 2) dX7_walk_54 (by decide) (by decide) rfl ?_
        refine pv_goto (pc := 57) (tgt := 42) dX7_walk_57 (by decide) ?_
        refine pv_iload_3 (pc := 42) dX7_walk_42 ?_
        refine pv_iconst (pc := 43) (v := 2) dX7_walk_43 (by decide) ?_
        refine pv_icmp_gt (pc := 44) (tgt := 60) dX7_walk_44 (by decide) (fun q => absurd q (by decide)) (fun _ => ?_)
        refine pv_aload_0 (pc := 47) dX7_walk_47 ?_
        refine pv_iload_1 (pc := 48) dX7_walk_48 ?_
        refine pv_iload_2 (pc := 49) dX7_walk_49 ?_
        refine pv_iload_3 (pc := 50) dX7_walk_50 ?_
        refine pv_callVq (pc := 51) dX7_walk_51 mgX7_walkOn lv_X7_68_7 (by decide) (sx_29 hT) (by omega) (c_won1 (J0 := I) (L0 := L) (I := I2) (L := L2) hT hR hM hc ih hm (by omega) h0 h1 hbl hK hbg hw (Or.inr (Or.inr rfl)) a2 b2 c2) rfl rfl (Nat.le_of_ble_eq_true rfl) (fun v3 t3 I3 L3 R3 hq => ?_)
        obtain ⟨rfl, rfl, rfl, a3, b3, c3⟩ := hq
        refine pv_iinc_3 (pc := 54) (v := 3) dX7_walk_54 (by decide) (by decide) rfl ?_
        refine pv_goto (pc := 57) (tgt := 42) dX7_walk_57 (by decide) ?_
        refine pv_iload_3 (pc := 42) dX7_walk_42 ?_
        refine pv_iconst (pc := 43) (v := 2) dX7_walk_43 (by decide) ?_
        refine pv_icmp_gt (pc := 44) (tgt := 60) dX7_walk_44 (by decide) (fun _ => ?_) (fun q => absurd q (by decide))
        refine pv_vret (pc := 60) dX7_walk_60 rfl ?_
        have hf : ¬ x_th a b aim 0 bg = true := fun q => absurd h30 (by rw [q]; decide)
        refine ⟨rfl, rfl, rfl, a3, b3, ?_⟩
        rw [x_wlk, if_pos hbet, if_neg hf]
        exact c3
      · refine pv_aload_0 (pc := 33) dX7_walk_33 ?_
        refine pv_iload_1 (pc := 34) dX7_walk_34 ?_
        refine pv_iload_2 (pc := 35) dX7_walk_35 ?_
        refine pv_callV0 (pc := 36) dX7_walk_36 mgX7_keep lv_X7_65_7 (by decide) (sx_29 hT) (by omega) (c_X7_keep hT hR (by omega) (by omega)) rfl rfl (by decide) ?_
        refine pv_vret (pc := 39) dX7_walk_39 rfl ?_
        refine ⟨rfl, rfl, rfl, fun a j q1 q2 q3 => ?_, sL.rf, ?_⟩
        · rw [pv_ur_ne _ _ q2, pv_u_o _ (by omega), pv_u_o _ (by omega)]
        · have e : x_wlk (x_th a b aim 0) c (m + 1) w so bg bs = some (w, so) := by rw [x_wlk, if_pos hbet, if_pos ((pv_b_n0 _).mp h30)]
          rw [e]
          exact sB_keep hw (by omega)
    skip
    refine pv_iload_2 (pc := 0) dX7_walk_0 ?_
    refine pv_aload_0 (pc := 1) dX7_walk_1 ?_
    refine pv_getI (pc := 2) dX7_walk_2 fg_X7_32_7 rfl (by decide) (sx_29 hT) ?_
    refine pv_icmp_gt (pc := 5) (tgt := 24) dX7_walk_5 (by decide) (fun h5 => ?_) (fun h5 => ?_)
    · refine pv_vret (pc := 24) dX7_walk_24 rfl ?_
      have hbn : ¬ w_bet so w.length bs = true := fun q => by
        have q1 := hbi.mp q
        first
          | exact q1.1 h5
          | (have f1 := h13; have f2 := h21; exact f2 (q1.2 (by first | exact f1 | exact Classical.not_not.mp f1)))
      exact ⟨rfl, rfl, rfl, sI.rf, sL.rf, by rw [x_wlk, if_neg hbn]; exact hB⟩
    · refine pv_iload_2 (pc := 8) dX7_walk_8 ?_
      refine pv_aload_0 (pc := 9) dX7_walk_9 ?_
      refine pv_getI (pc := 10) dX7_walk_10 fg_X7_32_7 rfl (by decide) (sx_29 hT) ?_
      refine pv_icmp_ne (pc := 13) (tgt := 25) dX7_walk_13 (by decide) (fun h13 => ?_) (fun h13 => ?_)
      · exact H25 (hbi.mpr ⟨by first | exact h5 | exact h5, fun q => by first | exact absurd q h13 | exact h21 | exact Classical.not_not.mp h21⟩)
      · refine pv_iload_1 (pc := 16) dX7_walk_16 ?_
        refine pv_aload_0 (pc := 17) dX7_walk_17 ?_
        refine pv_getI (pc := 18) dX7_walk_18 fg_X7_35_7 rfl (by decide) (sx_29 hT) ?_
        refine pv_icmp_lt (pc := 21) (tgt := 25) dX7_walk_21 (by decide) (fun h21 => ?_) (fun h21 => ?_)
        · exact H25 (hbi.mpr ⟨by first | exact h5 | exact h5, fun q => by first | exact absurd q h13 | exact h21 | exact Classical.not_not.mp h21⟩)
        · refine pv_vret (pc := 24) dX7_walk_24 rfl ?_
          have hbn : ¬ w_bet so w.length bs = true := fun q => by
            have q1 := hbi.mp q
            first
              | exact q1.1 h5
              | (have f1 := h13; have f2 := h21; exact f2 (q1.2 (by first | exact f1 | exact Classical.not_not.mp f1)))
          exact ⟨rfl, rfl, rfl, sI.rf, sL.rf, by rw [x_wlk, if_neg hbn]; exact hB⟩

set_option maxRecDepth 100000 in
set_option maxHeartbeats 4000000 in
theorem c_X7_find {G : pv_G} {d : Nat} {c : Int32 → Int32} {aim : Int32} {a b : Int64} {M : Nat} {bg : ML} {t : pv_T} {I : pv_I} {L : pv_L} {Rf : pv_R} (hT : sh_ok t) (hR : rf_ok Rf) (hM : M ≤ 9) (hc : c_ok c) (hbl : bg.length ≤ 4) (g5 : I 29 5 = Int32.ofNat bg.length) (g0 : I 32 0 = c 0) (g1 : I 32 1 = c 1) (g2 : I 32 2 = c 2) (hbg : sBg L 0 bg) (hB : sB I none) (hd : 30 ≤ d) : pv_Mt G mX7_find d 0 0 [.ref 29, .int aim, .long a, .long b, .int (Int32.ofNat M)] t I L Rf (fun v t1 I1 L1 R1 => v = none ∧ t1 = t ∧ R1 = Rf ∧ kC I L I1 L1 ∧ sB I1 (x_wlk (x_th a b aim 0) c M [] 0 bg none)) := by
  refine pv_mt mgX7_find.2.2.2.2.2 [.ref 29, .int aim, .long a, .retAddr 0, .long b, .retAddr 0, .int (Int32.ofNat M)] rfl (Nat.le_of_ble_eq_true rfl) ?_
  refine pv_aload_0 (pc := 0) dX7_find_0 ?_
  refine pv_iload_1 (pc := 1) dX7_find_1 ?_
  refine pv_putI (pc := 2) dX7_find_2 fl_X7_38_7 (fun q => by cases q) ⟨rfl, rfl, rfl⟩ (by decide) (sx_29 hT) ?_
  refine pv_aload_0 (pc := 5) dX7_find_5 ?_
  refine pv_lload_2 (pc := 6) dX7_find_6 ?_
  refine pv_putL (pc := 7) dX7_find_7 fl_X7_41_7 (fun q => by cases q) (by decide) (sx_29 hT) ?_
  refine pv_aload_0 (pc := 10) dX7_find_10 ?_
  refine pv_lload_4 (pc := 11) dX7_find_11 ?_
  refine pv_putL (pc := 13) dX7_find_13 fl_X7_45_7 (fun q => by cases q) (by decide) (sx_29 hT) ?_
  refine pv_aload_0 (pc := 16) dX7_find_16 ?_
  refine pv_iload_6 (pc := 17) dX7_find_17 ?_
  refine pv_bipush (pc := 19) (v := 9) dX7_find_19 (by decide) ?_
  refine pv_imin (pc := 21) dX7_find_21 mil_X7_48 mi_1 ma_0 mi_2 (by omega) (Nat.le_of_ble_eq_true rfl) ?_
  refine pv_topv2 (y := Int32.ofNat M) (by rw [if_neg (by have e0 := i_of (k := M) (by omega); have q := x_lits; simp only [i_lt]; omega)]) ?_
  refine pv_putI (pc := 24) dX7_find_24 fl_X7_54_7 (fun q => by cases q) ⟨rfl, rfl, rfl⟩ (by decide) (sx_29 hT) ?_
  have hK : sK (pv_u (pv_u I 29 6 aim) 29 9 (Int32.ofNat M)) (pv_u (pv_u L 29 7 a) 29 8 b) c bg.length aim a b M := ⟨g5, rfl, rfl, rfl, rfl, g0, g1, g2⟩
  refine pv_aload_0 (pc := 27) dX7_find_27 ?_
  refine pv_iconst (pc := 28) (v := 0) dX7_find_28 (by decide) ?_
  refine pv_iconst (pc := 29) (v := 0) dX7_find_29 (by decide) ?_
  refine pv_callVq (pc := 30) dX7_find_30 mgX7_walk lv_X7_57_7 (by decide) (sx_29 hT) (by omega) (l_wlk (c := c) hT hR hM hc M (d - 1) [] 0 _ _ bg none (by rw [List.length_nil, Nat.zero_add]) (by omega) (by decide) (by rw [show (0 : Int32).toInt = 0 by decide]; omega) hbl hK (fun j x hx => by rw [pv_u_o _ (by omega), pv_u_o _ (by omega), pv_u_o _ (by omega), pv_u_o _ (by omega)]; exact hbg j x hx) (fun j x hx => by cases hx) ⟨hB.1, hB.2⟩) rfl rfl (by decide) (fun v t I L Rf hq => ?_)
  obtain ⟨rfl, rfl, rfl, hI1, hL1, hB1⟩ := hq
  refine pv_vret (pc := 33) dX7_find_33 rfl ?_
  refine ⟨rfl, rfl, rfl, ⟨fun x j q1 q2 => ?_, fun x j q1 => ?_⟩, hB1⟩
  · rw [hI1 x j (by omega) (by omega) (by omega), pv_u_o _ (by omega), pv_u_o _ (by omega)]
  · rw [hL1 x j (by omega), pv_u_o _ (by omega), pv_u_o _ (by omega)]

theorem i_n1 {n : Nat} (h : n < 2147483648) : ¬ Int32.ofNat n = -1 := by rw [← Int32.toInt_inj, i_of (by omega), show (-1 : Int32).toInt = -1 by decide]; omega
def bs_in (bs : BS) (i : Int32) : Prop := ∃ x, bs = some x ∧ ¬ i < 0 ∧ i < Int32.ofNat x.1.length
set_option maxRecDepth 100000 in
set_option maxHeartbeats 4000000 in
theorem c_fs_no {G : pv_G} {d : Nat} {i : Int32} {bs : BS} {t : pv_T} {I : pv_I} {L : pv_L} {Rf : pv_R} (hT : sh_ok t) (hR : rf_ok Rf) (hB : sB I bs) (hn : ¬ bs_in bs i) (hd : 3 ≤ d) : pv_Mt G mX11_foundStep d 0 0 [.ref 16, .int i] t I L Rf (pv_is (some (.int (-10 + -5))) t (x_ref I 5) L Rf) := by
  refine pv_mt mgX11_foundStep.2.2.2.2.2 [.ref 16, .int i] rfl (Nat.le_of_ble_eq_true rfl) ?_
  cases bs with
  | none =>
    skip
    refine pv_aload_0 (pc := 0) dX11_foundStep_0 ?_
    refine pv_getR (pc := 1) dX11_foundStep_1 fg_X11_47_11 rfl (by decide) (sx_16 hT) (rx_16_8 hR) ?_
    refine pv_callV1 (pc := 4) dX11_foundStep_4 mgX7_isFound lv_X11_243_7 (by decide) (sx_29 hT) (by omega) (c_X7_isFound hT hR) rfl rfl (by decide) ?_
    refine pv_if_eq (pc := 7) (tgt := 37) dX11_foundStep_7 (by decide) (fun h7 => ?_) (fun h7 => absurd h7 (not_not_intro (by rw [hB.2]; rfl)))
    refine pv_aload_0 (pc := 37) dX11_foundStep_37 ?_
    refine pv_iconst (pc := 38) (v := 5) dX11_foundStep_38 (by decide) ?_
    refine pv_callV1 (pc := 39) dX11_foundStep_39 mgX11_refuseTen lv_X11_230_11 (by decide) (sx_16 hT) (by omega) (c_X11_refuseTen (k := 5) hT hR (by decide) (by unfold vp_in; decide) (by omega)) rfl rfl (by decide) ?_
    refine pv_iret (pc := 42) dX11_foundStep_42 rfl rfl ?_
    exact ⟨rfl, rfl, rfl, rfl, rfl⟩
  | some x =>
    by_cases g0 : i < 0
    · skip
      refine pv_aload_0 (pc := 0) dX11_foundStep_0 ?_
      refine pv_getR (pc := 1) dX11_foundStep_1 fg_X11_47_11 rfl (by decide) (sx_16 hT) (rx_16_8 hR) ?_
      refine pv_callV1 (pc := 4) dX11_foundStep_4 mgX7_isFound lv_X11_243_7 (by decide) (sx_29 hT) (by omega) (c_X7_isFound hT hR) rfl rfl (by decide) ?_
      refine pv_if_eq (pc := 7) (tgt := 37) dX11_foundStep_7 (by decide) (fun h7 => absurd h7 (by rw [hB.2.1, decide_eq_true (i_n1 (by have := hB.1; omega))]; decide)) (fun h7 => ?_)
      refine pv_iload_1 (pc := 10) dX11_foundStep_10 ?_
      refine pv_if_lt (pc := 11) (tgt := 37) dX11_foundStep_11 (by decide) (fun h11 => ?_) (fun h11 => absurd h11 (not_not_intro g0))
      refine pv_aload_0 (pc := 37) dX11_foundStep_37 ?_
      refine pv_iconst (pc := 38) (v := 5) dX11_foundStep_38 (by decide) ?_
      refine pv_callV1 (pc := 39) dX11_foundStep_39 mgX11_refuseTen lv_X11_230_11 (by decide) (sx_16 hT) (by omega) (c_X11_refuseTen (k := 5) hT hR (by decide) (by unfold vp_in; decide) (by omega)) rfl rfl (by decide) ?_
      refine pv_iret (pc := 42) dX11_foundStep_42 rfl rfl ?_
      exact ⟨rfl, rfl, rfl, rfl, rfl⟩
    · have g1 : ¬ i < Int32.ofNat x.1.length := fun q => hn ⟨x, rfl, g0, q⟩
      refine pv_aload_0 (pc := 0) dX11_foundStep_0 ?_
      refine pv_getR (pc := 1) dX11_foundStep_1 fg_X11_47_11 rfl (by decide) (sx_16 hT) (rx_16_8 hR) ?_
      refine pv_callV1 (pc := 4) dX11_foundStep_4 mgX7_isFound lv_X11_243_7 (by decide) (sx_29 hT) (by omega) (c_X7_isFound hT hR) rfl rfl (by decide) ?_
      refine pv_if_eq (pc := 7) (tgt := 37) dX11_foundStep_7 (by decide) (fun h7 => absurd h7 (by rw [hB.2.1, decide_eq_true (i_n1 (by have := hB.1; omega))]; decide)) (fun h7 => ?_)
      refine pv_iload_1 (pc := 10) dX11_foundStep_10 ?_
      refine pv_if_lt (pc := 11) (tgt := 37) dX11_foundStep_11 (by decide) (fun h11 => absurd h11 g0) (fun h11 => ?_)
      refine pv_iload_1 (pc := 14) dX11_foundStep_14 ?_
      refine pv_aload_0 (pc := 15) dX11_foundStep_15 ?_
      refine pv_getR (pc := 16) dX11_foundStep_16 fg_X11_47_11 rfl (by decide) (sx_16 hT) (rx_16_8 hR) ?_
      refine pv_getI (pc := 19) dX11_foundStep_19 fg_X11_246_7 rfl (by decide) (sx_29 hT) ?_
      refine pv_icmp_ge (pc := 22) (tgt := 37) dX11_foundStep_22 (by decide) (fun h22 => ?_) (fun h22 => absurd h22 (by rw [hB.2.1]; exact g1))
      refine pv_aload_0 (pc := 37) dX11_foundStep_37 ?_
      refine pv_iconst (pc := 38) (v := 5) dX11_foundStep_38 (by decide) ?_
      refine pv_callV1 (pc := 39) dX11_foundStep_39 mgX11_refuseTen lv_X11_230_11 (by decide) (sx_16 hT) (by omega) (c_X11_refuseTen (k := 5) hT hR (by decide) (by unfold vp_in; decide) (by omega)) rfl rfl (by decide) ?_
      refine pv_iret (pc := 42) dX11_foundStep_42 rfl rfl ?_
      exact ⟨rfl, rfl, rfl, rfl, rfl⟩
set_option maxRecDepth 100000 in
set_option maxHeartbeats 4000000 in
theorem c_fs_is {G : pv_G} {d : Nat} {x : BE} {i : Int32} {t : pv_T} {I : pv_I} {L : pv_L} {Rf : pv_R} (hT : sh_ok t) (hR : rf_ok Rf) (hB : sB I (some x)) (h0 : ¬ i < 0) (h1 : i < Int32.ofNat x.1.length) (hd : 3 ≤ d) : pv_Mt G mX11_foundStep d 0 0 [.ref 16, .int i] t I L Rf (pv_is (some (.int (x.1.getD i.toNatClampNeg 0))) t I L Rf) := by
  refine pv_mt mgX11_foundStep.2.2.2.2.2 [.ref 16, .int i] rfl (Nat.le_of_ble_eq_true rfl) ?_
  refine pv_aload_0 (pc := 0) dX11_foundStep_0 ?_
  refine pv_getR (pc := 1) dX11_foundStep_1 fg_X11_47_11 rfl (by decide) (sx_16 hT) (rx_16_8 hR) ?_
  refine pv_callV1 (pc := 4) dX11_foundStep_4 mgX7_isFound lv_X11_243_7 (by decide) (sx_29 hT) (by omega) (c_X7_isFound hT hR) rfl rfl (by decide) ?_
  refine pv_if_eq (pc := 7) (tgt := 37) dX11_foundStep_7 (by decide) (fun h7 => absurd h7 (by rw [hB.2.1, decide_eq_true (i_n1 (by have := hB.1; omega))]; decide)) (fun h7 => ?_)
  refine pv_iload_1 (pc := 10) dX11_foundStep_10 ?_
  refine pv_if_lt (pc := 11) (tgt := 37) dX11_foundStep_11 (by decide) (fun h11 => absurd h11 h0) (fun h11 => ?_)
  refine pv_iload_1 (pc := 14) dX11_foundStep_14 ?_
  refine pv_aload_0 (pc := 15) dX11_foundStep_15 ?_
  refine pv_getR (pc := 16) dX11_foundStep_16 fg_X11_47_11 rfl (by decide) (sx_16 hT) (rx_16_8 hR) ?_
  refine pv_getI (pc := 19) dX11_foundStep_19 fg_X11_246_7 rfl (by decide) (sx_29 hT) ?_
  refine pv_icmp_ge (pc := 22) (tgt := 37) dX11_foundStep_22 (by decide) (fun h22 => absurd h22 (not_not_intro (by rw [hB.2.1]; exact h1))) (fun h22 => ?_)
  refine pv_iload_1 (pc := 25) dX11_foundStep_25 ?_
  refine pv_aload_0 (pc := 26) dX11_foundStep_26 ?_
  refine pv_getR (pc := 27) dX11_foundStep_27 fg_X11_47_11 rfl (by decide) (sx_16 hT) (rx_16_8 hR) ?_
  refine pv_getR (pc := 30) dX11_foundStep_30 fg_X11_368_7 rfl (by decide) (sx_29 hT) (rx_29_4 hR) ?_
  refine pv_alen (pc := 33) dX11_foundStep_33 (sx_34 hT) rfl ?_
  refine pv_icmp_lt (pc := 34) (tgt := 43) dX11_foundStep_34 (by decide) (fun h34 => ?_) (fun h34 => absurd h34 (not_not_intro (by have q9 := x_lits; have := i_of (k := x.1.length) (by have := hB.1; omega); have := hB.1; rw [i_lt] at h1 ⊢; omega)))
  refine pv_aload_0 (pc := 43) dX11_foundStep_43 ?_
  refine pv_getR (pc := 44) dX11_foundStep_44 fg_X11_47_11 rfl (by decide) (sx_16 hT) (rx_16_8 hR) ?_
  refine pv_getR (pc := 47) dX11_foundStep_47 fg_X11_368_7 rfl (by decide) (sx_29 hT) (rx_29_4 hR) ?_
  refine pv_iload_1 (pc := 50) dX11_foundStep_50 ?_
  refine pv_ialoadj (pc := 51) dX11_foundStep_51 (sx_34 hT) rfl (pv_in_of (by rw [i_lt, Int32.toInt_zero] at h0; omega) (by have := i_of (k := x.1.length) (by have := hB.1; omega); have := hB.1; rw [i_lt] at h1; omega)) ?_
  refine pv_iret (pc := 52) dX11_foundStep_52 rfl rfl ?_
  refine ⟨congrArg (fun z => some (Value.int z)) ?_, rfl, rfl, rfl, rfl⟩
  have hj : i.toNatClampNeg < x.1.length := by
    have q := i_lit i
    have := i_of (k := x.1.length) (by have := hB.1; omega)
    rw [i_lt] at h1; rw [i_lt, Int32.toInt_zero] at h0; omega
  rw [hB.2.2.2 _ _ (List.getElem?_eq_getElem hj), List.getD_eq_getElem?_getD, List.getElem?_eq_getElem hj]; rfl

