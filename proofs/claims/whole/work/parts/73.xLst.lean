/-! the class: least and cheapest -/
theorem x_t5 : (-5 - 10 : Int32) = -10 + -5 := by decide
theorem x_t6 : (-6 - 10 : Int32) = -10 + -6 := by decide
theorem sBg_1 (L : pv_L) : sBg (pv_u (pv_u L 30 0 0) 31 0 1) 0 [(0, 1)] := by
  intro j x hx
  cases j with
  | zero => cases hx; exact ⟨rfl, rfl⟩
  | succ j => cases hx
theorem kC_open {I : pv_I} {L : pv_L} {x y z : Int32} : kC I L (pv_u (pv_u (pv_u (pv_u (pv_u (pv_u I 32 0 x) 32 1 y) 32 2 z) 29 5 0) 29 10 1000) 29 11 (-1)) L := (((((kC.rf.uI 32 0 x (by omega)).uI 32 1 y (by omega)).uI 32 2 z (by omega)).uI 29 5 0 (by omega)).uI 29 10 1000 (by omega)).uI 29 11 (-1) (by omega)
theorem i_m1 {n : Nat} (h : n < 2147483648) : ¬ ((-1 : Int32) < -1 ∨ ¬ (-1 : Int32) < Int32.ofNat n) := by
  have e := i_of h
  have e1 : (-1 : Int32).toInt = -1 := by decide
  simp only [i_lt]; omega
theorem i_lm {i : Int32} (h : i < 0) (g : ¬ i = -1) : i < -1 := by
  have e1 : (-1 : Int32).toInt = -1 := by decide
  have e0 : (0 : Int32).toInt = 0 := by decide
  rw [← Int32.toInt_inj] at g
  rw [i_lt] at h ⊢; omega
theorem i_nm {i : Int32} (h : ¬ i < 0) : ¬ i < -1 := by
  have e1 : (-1 : Int32).toInt = -1 := by decide
  have e0 : (0 : Int32).toInt = 0 := by decide
  rw [i_lt] at h ⊢; omega

set_option maxRecDepth 100000 in
set_option maxHeartbeats 4000000 in
theorem c_X11_least {G : pv_G} {d : Nat} {J : pv_I} {K : pv_L} {p q : Int64} {i : Int32} {t : pv_T} {I : pv_I} {L : pv_L} {Rf : pv_R} (hW : WF J K) (hX : RX J K t I L Rf)  (hd : 60 ≤ d) : pv_Mt G mX11_least d 0 0 [.ref 16, .long p, .long q, .int i] t I L Rf (qX (S_least J K p q i) I L) := by
  refine pv_mt mgX11_least.2.2.2.2.2 [.ref 16, .long p, .retAddr 0, .long q, .retAddr 0, .int i] rfl (Nat.le_of_ble_eq_true rfl) ?_
  have hT := hX.1
  have hR := hX.2.1
  obtain ⟨-, -, ⟨xp, xq, xn, xst, xsp, xsd, xc⟩, xf, xs, xb, xi⟩ := id hX
  refine pv_lload_1 (pc := 0) dX11_least_0 ?_
  refine pv_lload_3 (pc := 1) dX11_least_1 ?_
  refine pv_callS1 (pc := 2) dX11_least_2 mgX11_isNumber ls_X11_161 (by omega) (c_X11_isNumber hT (by omega)) rfl rfl (by decide) ?_
  refine pv_if_ne (pc := 5) (tgt := 15) dX11_least_5 (by decide) (fun h5 => ?_) (fun h5 => ?_)
  · refine pv_aload_0 (pc := 15) dX11_least_15 ?_
    refine pv_getR (pc := 16) dX11_least_16 fg_X11_47_11 rfl (by decide) (sx_16 hT) (rx_16_8 hR) ?_
    refine pv_iconst (pc := 19) (v := 1) dX11_least_19 (by decide) ?_
    refine pv_iconst (pc := 20) (v := 1) dX11_least_20 (by decide) ?_
    refine pv_iconst (pc := 21) (v := 1) dX11_least_21 (by decide) ?_
    refine pv_callV0 (pc := 22) dX11_least_22 mgX7_open lv_X11_233_7 (by decide) (sx_29 hT) (by omega) (c_X7_open hT hR) rfl rfl (by decide) ?_
    refine pv_aload_0 (pc := 25) dX11_least_25 ?_
    refine pv_getR (pc := 26) dX11_least_26 fg_X11_47_11 rfl (by decide) (sx_16 hT) (rx_16_8 hR) ?_
    refine pv_lconst (pc := 29) (v := 0) dX11_least_29 (by decide) ?_
    refine pv_lconst (pc := 30) (v := 1) dX11_least_30 (by decide) ?_
    refine pv_callV0 (pc := 31) dX11_least_31 mgX7_add lv_X11_236_7 (by decide) (sx_29 hT) (by omega) (c_X7_add (n := 0) hT hR (by decide) rfl) rfl rfl (by decide) ?_
    have kc0 := ((kC_open (I := I) (L := L) (x := 1) (y := 1) (z := 1)).uI 29 5 (Int32.ofNat 1) (by omega)).uL 30 0 0 (by omega) |>.uL 31 0 1 (by omega)
    refine pv_aload_0 (pc := 34) dX11_least_34 ?_
    refine pv_getR (pc := 35) dX11_least_35 fg_X11_47_11 rfl (by decide) (sx_16 hT) (rx_16_8 hR) ?_
    refine pv_iconst (pc := 38) (v := 0) dX11_least_38 (by decide) ?_
    refine pv_lload_1 (pc := 39) dX11_least_39 ?_
    refine pv_lload_3 (pc := 40) dX11_least_40 ?_
    refine pv_bipush (pc := 41) (v := 9) dX11_least_41 (by decide) ?_
    refine pv_callVq (pc := 43) dX11_least_43 mgX7_find lv_X11_239_7 (by decide) (sx_29 hT) (by omega) (c_X7_find (c := fun _ => 1) (bg := [(0, 1)]) (M := 9) hT hR (by decide) c_ok_1 (by decide) rfl rfl rfl rfl (sBg_1 L) ⟨rfl, rfl⟩ (by omega)) rfl rfl (by decide) (fun v t I L Rf hq => ?_)
    obtain ⟨rfl, rfl, rfl, hk1, hB⟩ := hq
    have kc := kc0.tr hk1
    have hnum : s_num p q = true := (pv_b_n0 _).mp h5
    obtain ⟨bs, hbs⟩ : ∃ bs, bs = x_wlk (x_th p q 0 0) (fun _ => 1) 9 [] 0 [(0, 1)] none := ⟨_, rfl⟩
    rw [← hbs] at hB
    have eS : S_least J K p q i = S_foundAt J K i (bs.map fun b => b.1) := by unfold S_least; rw [if_pos hnum, x_wlk_least, hbs]
    rw [eS]
    rcases bs with _ | b
    · skip
      refine pv_iload_5 (pc := 46) dX11_least_46 ?_
      refine pv_iconst (pc := 48) (v := (-1)) dX11_least_48 (by decide) ?_
      refine pv_icmp_ne (pc := 49) (tgt := 72) dX11_least_49 (by decide) (fun h49 => ?_) (fun h49 => ?_)
      · refine pv_aload_0 (pc := 72) dX11_least_72 ?_
        refine pv_iload_5 (pc := 73) dX11_least_73 ?_
        refine pv_callV1 (pc := 75) dX11_least_75 mgX11_foundStep lv_X11_249_11 (by decide) (sx_16 hT) (by omega) (c_fs_no hT hR hB (fun q => by obtain ⟨x, q1, q2⟩ := q; cases q1) (by omega)) rfl rfl (by decide) ?_
        refine pv_iret (pc := 78) dX11_least_78 rfl rfl ?_
        refine qX.scrref hX kc (by decide) ?_
        show S_ref J K 5 (.int (-5 - 10)) = _
        rw [x_t5]
      · refine pv_aload_0 (pc := 52) dX11_least_52 ?_
        refine pv_getR (pc := 53) dX11_least_53 fg_X11_47_11 rfl (by decide) (sx_16 hT) (rx_16_8 hR) ?_
        refine pv_callV1 (pc := 56) dX11_least_56 mgX7_isFound lv_X11_243_7 (by decide) (sx_29 hT) (by omega) (c_X7_isFound hT hR) rfl rfl (by decide) ?_
        refine pv_if_eq (pc := 59) (tgt := 72) dX11_least_59 (by decide) (fun h59 => ?_) (fun h59 => absurd h59 (not_not_intro (by rw [hB.2]; rfl)))
        refine pv_aload_0 (pc := 72) dX11_least_72 ?_
        refine pv_iload_5 (pc := 73) dX11_least_73 ?_
        refine pv_callV1 (pc := 75) dX11_least_75 mgX11_foundStep lv_X11_249_11 (by decide) (sx_16 hT) (by omega) (c_fs_no hT hR hB (fun q => by obtain ⟨x, q1, q2⟩ := q; cases q1) (by omega)) rfl rfl (by decide) ?_
        refine pv_iret (pc := 78) dX11_least_78 rfl rfl ?_
        refine qX.scrref hX kc (by decide) ?_
        show S_ref J K 5 (.int (-5 - 10)) = _
        rw [x_t5]
    · by_cases e : i = -1
      · skip
        refine pv_iload_5 (pc := 46) dX11_least_46 ?_
        refine pv_iconst (pc := 48) (v := (-1)) dX11_least_48 (by decide) ?_
        refine pv_icmp_ne (pc := 49) (tgt := 72) dX11_least_49 (by decide) (fun h49 => absurd h49 (not_not_intro e)) (fun h49 => ?_)
        refine pv_aload_0 (pc := 52) dX11_least_52 ?_
        refine pv_getR (pc := 53) dX11_least_53 fg_X11_47_11 rfl (by decide) (sx_16 hT) (rx_16_8 hR) ?_
        refine pv_callV1 (pc := 56) dX11_least_56 mgX7_isFound lv_X11_243_7 (by decide) (sx_29 hT) (by omega) (c_X7_isFound hT hR) rfl rfl (by decide) ?_
        refine pv_if_eq (pc := 59) (tgt := 72) dX11_least_59 (by decide) (fun h59 => absurd h59 (by rw [hB.2.1, decide_eq_true (i_n1 (by have := hB.1; omega))]; decide)) (fun h59 => ?_)
        refine pv_aload_0 (pc := 62) dX11_least_62 ?_
        refine pv_getR (pc := 63) dX11_least_63 fg_X11_47_11 rfl (by decide) (sx_16 hT) (rx_16_8 hR) ?_
        refine pv_getI (pc := 66) dX11_least_66 fg_X11_246_7 rfl (by decide) (sx_29 hT) ?_
        refine pv_goto (pc := 69) (tgt := 78) dX11_least_69 (by decide) ?_
        refine pv_iret (pc := 78) dX11_least_78 rfl rfl ?_
        refine qX.scr hX kc ?_
        rw [e]
        show S_foundAt J K (-1) (some b.1) = _
        rw [S_found_s, if_neg (i_m1 (by have := hB.1; omega)), if_pos rfl]
        exact congrArg (fun z => ((Value.int z, J, K) : SR)) hB.2.1.symm
      · by_cases g0 : i < 0
        · skip
          refine pv_iload_5 (pc := 46) dX11_least_46 ?_
          refine pv_iconst (pc := 48) (v := (-1)) dX11_least_48 (by decide) ?_
          refine pv_icmp_ne (pc := 49) (tgt := 72) dX11_least_49 (by decide) (fun h49 => ?_) (fun h49 => absurd h49 e)
          refine pv_aload_0 (pc := 72) dX11_least_72 ?_
          refine pv_iload_5 (pc := 73) dX11_least_73 ?_
          refine pv_callV1 (pc := 75) dX11_least_75 mgX11_foundStep lv_X11_249_11 (by decide) (sx_16 hT) (by omega) (c_fs_no hT hR hB (fun q => by obtain ⟨x, q1, q2, q3⟩ := q; exact q2 g0) (by omega)) rfl rfl (by decide) ?_
          refine pv_iret (pc := 78) dX11_least_78 rfl rfl ?_
          refine qX.scrref hX kc (by decide) ?_
          show S_foundAt J K i (some b.1) = _
          rw [S_found_s, if_pos (Or.inl (i_lm g0 e)), x_t5]
        · by_cases g1 : i < Int32.ofNat b.1.length
          · skip
            refine pv_iload_5 (pc := 46) dX11_least_46 ?_
            refine pv_iconst (pc := 48) (v := (-1)) dX11_least_48 (by decide) ?_
            refine pv_icmp_ne (pc := 49) (tgt := 72) dX11_least_49 (by decide) (fun h49 => ?_) (fun h49 => absurd h49 e)
            refine pv_aload_0 (pc := 72) dX11_least_72 ?_
            refine pv_iload_5 (pc := 73) dX11_least_73 ?_
            refine pv_callV1 (pc := 75) dX11_least_75 mgX11_foundStep lv_X11_249_11 (by decide) (sx_16 hT) (by omega) (c_fs_is hT hR hB g0 g1 (by omega)) rfl rfl (by decide) ?_
            refine pv_iret (pc := 78) dX11_least_78 rfl rfl ?_
            refine qX.scr hX kc ?_
            show S_foundAt J K i (some b.1) = _
            rw [S_found_s, if_neg (fun q => q.elim (i_nm g0) (fun r => r g1)), if_neg e]
          · skip
            refine pv_iload_5 (pc := 46) dX11_least_46 ?_
            refine pv_iconst (pc := 48) (v := (-1)) dX11_least_48 (by decide) ?_
            refine pv_icmp_ne (pc := 49) (tgt := 72) dX11_least_49 (by decide) (fun h49 => ?_) (fun h49 => absurd h49 e)
            refine pv_aload_0 (pc := 72) dX11_least_72 ?_
            refine pv_iload_5 (pc := 73) dX11_least_73 ?_
            refine pv_callV1 (pc := 75) dX11_least_75 mgX11_foundStep lv_X11_249_11 (by decide) (sx_16 hT) (by omega) (c_fs_no hT hR hB (fun q => by obtain ⟨x, q1, q2, q3⟩ := q; cases q1; exact g1 q3) (by omega)) rfl rfl (by decide) ?_
            refine pv_iret (pc := 78) dX11_least_78 rfl rfl ?_
            refine qX.scrref hX kc (by decide) ?_
            show S_foundAt J K i (some b.1) = _
            rw [S_found_s, if_pos (Or.inr g1), x_t5]
  · refine pv_aload_0 (pc := 8) dX11_least_8 ?_
    refine pv_bipush (pc := 9) (v := 6) dX11_least_9 (by decide) ?_
    refine pv_callV1 (pc := 11) dX11_least_11 mgX11_refuseTen lv_X11_230_11 (by decide) (sx_16 hT) (by omega) (c_X11_refuseTen (k := 6) hT hR (by decide) (by unfold vp_in; decide) (by omega)) rfl rfl (by decide) ?_
    refine pv_iret (pc := 14) dX11_least_14 rfl rfl ?_
    have hn : ¬ s_num p q = true := fun z => absurd (by first | exact h5 | exact Classical.not_not.mp h5) (by rw [z]; decide)
    refine qX.ref hX (by decide : 6 < 8) ?_
    unfold S_least; rw [if_neg hn, x_t6]

def c3 (x y z : Int32) : Int32 → Int32 := fun s => if s = 0 then x else if s = 1 then y else z
theorem c3_ok {x y z : Int32} (hx : s_cost x = true) (hy : s_cost y = true) (hz : s_cost z = true) : c_ok (c3 x y z) := by
  unfold s_cost at hx hy hz
  have e1 : (1 : Int32).toInt = 1 := by decide
  have e9 : (9 : Int32).toInt = 9 := by decide
  simp only [Bool.and_eq_true, decide_eq_true_eq, i_le, e1, e9] at hx hy hz
  intro s
  unfold c3
  split
  · exact hx
  · split
    · exact hy
    · exact hz
set_option maxRecDepth 100000 in
set_option maxHeartbeats 4000000 in
theorem c_X11_cheapest {G : pv_G} {d : Nat} {J : pv_I} {K : pv_L} {p q : Int64} {x y z i : Int32} {t : pv_T} {I : pv_I} {L : pv_L} {Rf : pv_R} (hW : WF J K) (hX : RX J K t I L Rf)  (hd : 60 ≤ d) : pv_Mt G mX11_cheapest d 0 0 [.ref 16, .long p, .long q, .int x, .int y, .int z, .int i] t I L Rf (qX (S_cheapest J K p q x y z i) I L) := by
  refine pv_mt mgX11_cheapest.2.2.2.2.2 [.ref 16, .long p, .retAddr 0, .long q, .retAddr 0, .int x, .int y, .int z, .int i] rfl (Nat.le_of_ble_eq_true rfl) ?_
  have hT := hX.1
  have hR := hX.2.1
  obtain ⟨-, -, ⟨xp, xq, xn, xst, xsp, xsd, xc⟩, xf, xs, xb, xi⟩ := id hX
  refine pv_lload_1 (pc := 0) dX11_cheapest_0 ?_
  refine pv_lload_3 (pc := 1) dX11_cheapest_1 ?_
  refine pv_callS1 (pc := 2) dX11_cheapest_2 mgX11_isNumber ls_X11_161 (by omega) (c_X11_isNumber hT (by omega)) rfl rfl (by decide) ?_
  refine pv_if_eq (pc := 5) (tgt := 32) dX11_cheapest_5 (by decide) (fun h5 => ?_) (fun h5 => ?_)
  · refine pv_aload_0 (pc := 32) dX11_cheapest_32 ?_
    refine pv_bipush (pc := 33) (v := 6) dX11_cheapest_33 (by decide) ?_
    refine pv_callV1 (pc := 35) dX11_cheapest_35 mgX11_refuseTen lv_X11_230_11 (by decide) (sx_16 hT) (by omega) (c_X11_refuseTen (k := 6) hT hR (by decide) (by unfold vp_in; decide) (by omega)) rfl rfl (by decide) ?_
    refine pv_iret (pc := 38) dX11_cheapest_38 rfl rfl ?_
    have hn : ¬ (s_num p q = true ∧ s_cost x = true ∧ s_cost y = true ∧ s_cost z = true) := by
      rintro ⟨z1, z2, z3, z4⟩
      unfold s_cost at z2 z3 z4
      first
        | exact absurd (by first | exact h5 | exact Classical.not_not.mp h5) (by rw [z1]; decide)
        | exact absurd (by first | exact h13 | exact Classical.not_not.mp h13) (by rw [z2]; decide)
        | exact absurd (by first | exact h21 | exact Classical.not_not.mp h21) (by rw [z3]; decide)
        | exact absurd (by first | exact h29 | exact Classical.not_not.mp h29) (by rw [z4]; decide)
    refine qX.ref hX (by decide : 6 < 8) ?_
    unfold S_cheapest; rw [if_neg hn, x_t6]
  · refine pv_iload_5 (pc := 8) dX11_cheapest_8 ?_
    refine pv_callS1 (pc := 10) dX11_cheapest_10 mgX11_isCost ls_X11_148 (by omega) (c_X11_isCost ) rfl rfl (by decide) ?_
    refine pv_if_eq (pc := 13) (tgt := 32) dX11_cheapest_13 (by decide) (fun h13 => ?_) (fun h13 => ?_)
    · refine pv_aload_0 (pc := 32) dX11_cheapest_32 ?_
      refine pv_bipush (pc := 33) (v := 6) dX11_cheapest_33 (by decide) ?_
      refine pv_callV1 (pc := 35) dX11_cheapest_35 mgX11_refuseTen lv_X11_230_11 (by decide) (sx_16 hT) (by omega) (c_X11_refuseTen (k := 6) hT hR (by decide) (by unfold vp_in; decide) (by omega)) rfl rfl (by decide) ?_
      refine pv_iret (pc := 38) dX11_cheapest_38 rfl rfl ?_
      have hn : ¬ (s_num p q = true ∧ s_cost x = true ∧ s_cost y = true ∧ s_cost z = true) := by
        rintro ⟨z1, z2, z3, z4⟩
        unfold s_cost at z2 z3 z4
        first
          | exact absurd (by first | exact h5 | exact Classical.not_not.mp h5) (by rw [z1]; decide)
          | exact absurd (by first | exact h13 | exact Classical.not_not.mp h13) (by rw [z2]; decide)
          | exact absurd (by first | exact h21 | exact Classical.not_not.mp h21) (by rw [z3]; decide)
          | exact absurd (by first | exact h29 | exact Classical.not_not.mp h29) (by rw [z4]; decide)
      refine qX.ref hX (by decide : 6 < 8) ?_
      unfold S_cheapest; rw [if_neg hn, x_t6]
    · refine pv_iload_6 (pc := 16) dX11_cheapest_16 ?_
      refine pv_callS1 (pc := 18) dX11_cheapest_18 mgX11_isCost ls_X11_148 (by omega) (c_X11_isCost ) rfl rfl (by decide) ?_
      refine pv_if_eq (pc := 21) (tgt := 32) dX11_cheapest_21 (by decide) (fun h21 => ?_) (fun h21 => ?_)
      · refine pv_aload_0 (pc := 32) dX11_cheapest_32 ?_
        refine pv_bipush (pc := 33) (v := 6) dX11_cheapest_33 (by decide) ?_
        refine pv_callV1 (pc := 35) dX11_cheapest_35 mgX11_refuseTen lv_X11_230_11 (by decide) (sx_16 hT) (by omega) (c_X11_refuseTen (k := 6) hT hR (by decide) (by unfold vp_in; decide) (by omega)) rfl rfl (by decide) ?_
        refine pv_iret (pc := 38) dX11_cheapest_38 rfl rfl ?_
        have hn : ¬ (s_num p q = true ∧ s_cost x = true ∧ s_cost y = true ∧ s_cost z = true) := by
          rintro ⟨z1, z2, z3, z4⟩
          unfold s_cost at z2 z3 z4
          first
            | exact absurd (by first | exact h5 | exact Classical.not_not.mp h5) (by rw [z1]; decide)
            | exact absurd (by first | exact h13 | exact Classical.not_not.mp h13) (by rw [z2]; decide)
            | exact absurd (by first | exact h21 | exact Classical.not_not.mp h21) (by rw [z3]; decide)
            | exact absurd (by first | exact h29 | exact Classical.not_not.mp h29) (by rw [z4]; decide)
        refine qX.ref hX (by decide : 6 < 8) ?_
        unfold S_cheapest; rw [if_neg hn, x_t6]
      · refine pv_iload_7 (pc := 24) dX11_cheapest_24 ?_
        refine pv_callS1 (pc := 26) dX11_cheapest_26 mgX11_isCost ls_X11_148 (by omega) (c_X11_isCost ) rfl rfl (by decide) ?_
        refine pv_if_ne (pc := 29) (tgt := 39) dX11_cheapest_29 (by decide) (fun h29 => ?_) (fun h29 => ?_)
        · have hnum : s_num p q = true := (pv_b_n0 _).mp h5
          have hcx : s_cost x = true := (pv_b_n0 _).mp h13
          have hcy : s_cost y = true := (pv_b_n0 _).mp h21
          have hcz : s_cost z = true := (pv_b_n0 _).mp h29
          have hc : c_ok (c3 x y z) := c3_ok hcx hcy hcz
          refine pv_aload_0 (pc := 39) dX11_cheapest_39 ?_
          refine pv_getR (pc := 40) dX11_cheapest_40 fg_X11_47_11 rfl (by decide) (sx_16 hT) (rx_16_8 hR) ?_
          refine pv_iload_5 (pc := 43) dX11_cheapest_43 ?_
          refine pv_iload_6 (pc := 45) dX11_cheapest_45 ?_
          refine pv_iload_7 (pc := 47) dX11_cheapest_47 ?_
          refine pv_callV0 (pc := 49) dX11_cheapest_49 mgX7_open lv_X11_233_7 (by decide) (sx_29 hT) (by omega) (c_X7_open hT hR) rfl rfl (by decide) ?_
          refine pv_aload_0 (pc := 52) dX11_cheapest_52 ?_
          refine pv_getR (pc := 53) dX11_cheapest_53 fg_X11_47_11 rfl (by decide) (sx_16 hT) (rx_16_8 hR) ?_
          refine pv_lconst (pc := 56) (v := 0) dX11_cheapest_56 (by decide) ?_
          refine pv_lconst (pc := 57) (v := 1) dX11_cheapest_57 (by decide) ?_
          refine pv_callV0 (pc := 58) dX11_cheapest_58 mgX7_add lv_X11_236_7 (by decide) (sx_29 hT) (by omega) (c_X7_add (n := 0) hT hR (by decide) rfl) rfl rfl (by decide) ?_
          have kc0 := ((kC_open (I := I) (L := L) (x := x) (y := y) (z := z)).uI 29 5 (Int32.ofNat 1) (by omega)).uL 30 0 0 (by omega) |>.uL 31 0 1 (by omega)
          refine pv_aload_0 (pc := 61) dX11_cheapest_61 ?_
          refine pv_getR (pc := 62) dX11_cheapest_62 fg_X11_47_11 rfl (by decide) (sx_16 hT) (rx_16_8 hR) ?_
          refine pv_iconst (pc := 65) (v := 0) dX11_cheapest_65 (by decide) ?_
          refine pv_lload_1 (pc := 66) dX11_cheapest_66 ?_
          refine pv_lload_3 (pc := 67) dX11_cheapest_67 ?_
          refine pv_bipush (pc := 68) (v := 7) dX11_cheapest_68 (by decide) ?_
          refine pv_callVq (pc := 70) dX11_cheapest_70 mgX7_find lv_X11_239_7 (by decide) (sx_29 hT) (by omega) (c_X7_find (c := c3 x y z) (bg := [(0, 1)]) (M := 7) hT hR (by decide) hc (by decide) rfl rfl rfl rfl (sBg_1 L) ⟨rfl, rfl⟩ (by omega)) rfl rfl (by decide) (fun v t I L Rf hq => ?_)
          obtain ⟨rfl, rfl, rfl, hk1, hB⟩ := hq
          have kc := kc0.tr hk1
          obtain ⟨bs, hbs⟩ : ∃ bs, bs = x_wlk (x_th p q 0 0) (c3 x y z) 7 [] 0 [(0, 1)] none := ⟨_, rfl⟩
          rw [← hbs] at hB
          have eS : S_cheapest J K p q x y z i = S_chpV J K i bs := by
            unfold S_cheapest
            rw [if_pos ⟨hnum, hcx, hcy, hcz⟩, hbs, ← x_wlk_chp p q (c3 x y z) hc]; rfl
          rw [eS]
          rcases bs with _ | b
          · skip
            refine pv_iload_8 (pc := 73) dX11_cheapest_73 ?_
            refine pv_iconst (pc := 75) (v := (-1)) dX11_cheapest_75 (by decide) ?_
            refine pv_icmp_ne (pc := 76) (tgt := 99) dX11_cheapest_76 (by decide) (fun h76 => ?_) (fun h76 => ?_)
            · refine pv_aload_0 (pc := 99) dX11_cheapest_99 ?_
              refine pv_iload_8 (pc := 100) dX11_cheapest_100 ?_
              refine pv_callV1 (pc := 102) dX11_cheapest_102 mgX11_foundStep lv_X11_249_11 (by decide) (sx_16 hT) (by omega) (c_fs_no hT hR hB (fun q => by obtain ⟨x, q1, q2⟩ := q; cases q1) (by omega)) rfl rfl (by decide) ?_
              refine pv_iret (pc := 105) dX11_cheapest_105 rfl rfl ?_
              refine qX.scrref hX kc (by decide) ?_
              show S_ref J K 5 (.int (-5 - 10)) = _
              rw [x_t5]
            · refine pv_aload_0 (pc := 79) dX11_cheapest_79 ?_
              refine pv_getR (pc := 80) dX11_cheapest_80 fg_X11_47_11 rfl (by decide) (sx_16 hT) (rx_16_8 hR) ?_
              refine pv_callV1 (pc := 83) dX11_cheapest_83 mgX7_isFound lv_X11_243_7 (by decide) (sx_29 hT) (by omega) (c_X7_isFound hT hR) rfl rfl (by decide) ?_
              refine pv_if_eq (pc := 86) (tgt := 99) dX11_cheapest_86 (by decide) (fun h86 => ?_) (fun h86 => absurd h86 (not_not_intro (by rw [hB.2]; rfl)))
              refine pv_aload_0 (pc := 99) dX11_cheapest_99 ?_
              refine pv_iload_8 (pc := 100) dX11_cheapest_100 ?_
              refine pv_callV1 (pc := 102) dX11_cheapest_102 mgX11_foundStep lv_X11_249_11 (by decide) (sx_16 hT) (by omega) (c_fs_no hT hR hB (fun q => by obtain ⟨x, q1, q2⟩ := q; cases q1) (by omega)) rfl rfl (by decide) ?_
              refine pv_iret (pc := 105) dX11_cheapest_105 rfl rfl ?_
              refine qX.scrref hX kc (by decide) ?_
              show S_ref J K 5 (.int (-5 - 10)) = _
              rw [x_t5]
          · by_cases e : i = -1
            · skip
              refine pv_iload_8 (pc := 73) dX11_cheapest_73 ?_
              refine pv_iconst (pc := 75) (v := (-1)) dX11_cheapest_75 (by decide) ?_
              refine pv_icmp_ne (pc := 76) (tgt := 99) dX11_cheapest_76 (by decide) (fun h76 => absurd h76 (not_not_intro e)) (fun h76 => ?_)
              refine pv_aload_0 (pc := 79) dX11_cheapest_79 ?_
              refine pv_getR (pc := 80) dX11_cheapest_80 fg_X11_47_11 rfl (by decide) (sx_16 hT) (rx_16_8 hR) ?_
              refine pv_callV1 (pc := 83) dX11_cheapest_83 mgX7_isFound lv_X11_243_7 (by decide) (sx_29 hT) (by omega) (c_X7_isFound hT hR) rfl rfl (by decide) ?_
              refine pv_if_eq (pc := 86) (tgt := 99) dX11_cheapest_86 (by decide) (fun h86 => absurd h86 (by rw [hB.2.1, decide_eq_true (i_n1 (by have := hB.1; omega))]; decide)) (fun h86 => ?_)
              refine pv_aload_0 (pc := 89) dX11_cheapest_89 ?_
              refine pv_getR (pc := 90) dX11_cheapest_90 fg_X11_47_11 rfl (by decide) (sx_16 hT) (rx_16_8 hR) ?_
              refine pv_getI (pc := 93) dX11_cheapest_93 fg_X11_252_7 rfl (by decide) (sx_29 hT) ?_
              refine pv_goto (pc := 96) (tgt := 105) dX11_cheapest_96 (by decide) ?_
              refine pv_iret (pc := 105) dX11_cheapest_105 rfl rfl ?_
              refine qX.scr hX kc ?_
              rw [e]
              show S_chpV J K (-1) (some b) = _
              rw [S_chp_s, if_neg (i_m1 (by have := hB.1; omega)), if_pos rfl]
              exact congrArg (fun z => ((Value.int z, J, K) : SR)) hB.2.2.1.symm
            · by_cases g0 : i < 0
              · skip
                refine pv_iload_8 (pc := 73) dX11_cheapest_73 ?_
                refine pv_iconst (pc := 75) (v := (-1)) dX11_cheapest_75 (by decide) ?_
                refine pv_icmp_ne (pc := 76) (tgt := 99) dX11_cheapest_76 (by decide) (fun h76 => ?_) (fun h76 => absurd h76 e)
                refine pv_aload_0 (pc := 99) dX11_cheapest_99 ?_
                refine pv_iload_8 (pc := 100) dX11_cheapest_100 ?_
                refine pv_callV1 (pc := 102) dX11_cheapest_102 mgX11_foundStep lv_X11_249_11 (by decide) (sx_16 hT) (by omega) (c_fs_no hT hR hB (fun q => by obtain ⟨x, q1, q2, q3⟩ := q; exact q2 g0) (by omega)) rfl rfl (by decide) ?_
                refine pv_iret (pc := 105) dX11_cheapest_105 rfl rfl ?_
                refine qX.scrref hX kc (by decide) ?_
                show S_chpV J K i (some b) = _
                rw [S_chp_s, if_pos (Or.inl (i_lm g0 e)), x_t5]
              · by_cases g1 : i < Int32.ofNat b.1.length
                · skip
                  refine pv_iload_8 (pc := 73) dX11_cheapest_73 ?_
                  refine pv_iconst (pc := 75) (v := (-1)) dX11_cheapest_75 (by decide) ?_
                  refine pv_icmp_ne (pc := 76) (tgt := 99) dX11_cheapest_76 (by decide) (fun h76 => ?_) (fun h76 => absurd h76 e)
                  refine pv_aload_0 (pc := 99) dX11_cheapest_99 ?_
                  refine pv_iload_8 (pc := 100) dX11_cheapest_100 ?_
                  refine pv_callV1 (pc := 102) dX11_cheapest_102 mgX11_foundStep lv_X11_249_11 (by decide) (sx_16 hT) (by omega) (c_fs_is hT hR hB g0 g1 (by omega)) rfl rfl (by decide) ?_
                  refine pv_iret (pc := 105) dX11_cheapest_105 rfl rfl ?_
                  refine qX.scr hX kc ?_
                  show S_chpV J K i (some b) = _
                  rw [S_chp_s, if_neg (fun q => q.elim (i_nm g0) (fun r => r g1)), if_neg e]
                · skip
                  refine pv_iload_8 (pc := 73) dX11_cheapest_73 ?_
                  refine pv_iconst (pc := 75) (v := (-1)) dX11_cheapest_75 (by decide) ?_
                  refine pv_icmp_ne (pc := 76) (tgt := 99) dX11_cheapest_76 (by decide) (fun h76 => ?_) (fun h76 => absurd h76 e)
                  refine pv_aload_0 (pc := 99) dX11_cheapest_99 ?_
                  refine pv_iload_8 (pc := 100) dX11_cheapest_100 ?_
                  refine pv_callV1 (pc := 102) dX11_cheapest_102 mgX11_foundStep lv_X11_249_11 (by decide) (sx_16 hT) (by omega) (c_fs_no hT hR hB (fun q => by obtain ⟨x, q1, q2, q3⟩ := q; cases q1; exact g1 q3) (by omega)) rfl rfl (by decide) ?_
                  refine pv_iret (pc := 105) dX11_cheapest_105 rfl rfl ?_
                  refine qX.scrref hX kc (by decide) ?_
                  show S_chpV J K i (some b) = _
                  rw [S_chp_s, if_pos (Or.inr g1), x_t5]
        · refine pv_aload_0 (pc := 32) dX11_cheapest_32 ?_
          refine pv_bipush (pc := 33) (v := 6) dX11_cheapest_33 (by decide) ?_
          refine pv_callV1 (pc := 35) dX11_cheapest_35 mgX11_refuseTen lv_X11_230_11 (by decide) (sx_16 hT) (by omega) (c_X11_refuseTen (k := 6) hT hR (by decide) (by unfold vp_in; decide) (by omega)) rfl rfl (by decide) ?_
          refine pv_iret (pc := 38) dX11_cheapest_38 rfl rfl ?_
          have hn : ¬ (s_num p q = true ∧ s_cost x = true ∧ s_cost y = true ∧ s_cost z = true) := by
            rintro ⟨z1, z2, z3, z4⟩
            unfold s_cost at z2 z3 z4
            first
              | exact absurd (by first | exact h5 | exact Classical.not_not.mp h5) (by rw [z1]; decide)
              | exact absurd (by first | exact h13 | exact Classical.not_not.mp h13) (by rw [z2]; decide)
              | exact absurd (by first | exact h21 | exact Classical.not_not.mp h21) (by rw [z3]; decide)
              | exact absurd (by first | exact h29 | exact Classical.not_not.mp h29) (by rw [z4]; decide)
          refine qX.ref hX (by decide : 6 < 8) ?_
          unfold S_cheapest; rw [if_neg hn, x_t6]

