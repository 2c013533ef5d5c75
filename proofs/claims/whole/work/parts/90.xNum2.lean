/-! the class: a number read -/
def q_dg (e k f : Nat) (p : Nat × Int32) (J0 : pv_I) (t : pv_T) (L : pv_L) (Rf : pv_R) : pv_Q := fun v t1 I1 L1 R1 => t1 = t ∧ L1 = L ∧ R1 = Rf ∧ sF k J0 I1 ∧ v = some (.int (if f < p.1 then p.2 else -1)) ∧ I1 (45 + 2 * k) 4 = Int32.ofNat p.1 ∧ I1 (45 + 2 * k) 5 = Int32.ofNat f ∧ (¬ f < p.1 → I1 (45 + 2 * k) 6 = Int32.ofNat p.1) ∧ p.1 ≤ e
theorem x_f3 (f : Nat) : Int32.ofNat f + 3 = Int32.ofNat (f + 3) := (Int32.ofNat_add f 3).symm

set_option maxRecDepth 100000 in
set_option maxHeartbeats 4000000 in
theorem l_dge {G : pv_G} {d k e f : Nat} {c : Nat → Int32} {t : pv_T} {L : pv_L} {Rf : pv_R} {J0 : pv_I} (hT : sh_ok t) (hR : rf_ok Rf) (hk8 : k < 8) (hd : 4 ≤ d) {Q : pv_Q} {r1 : Nat} {x : Int32} {I : pv_I} (hQ : ∀ v t1 I1 L1 R1, q_dg e k f (r1, x) J0 t L Rf v t1 I1 L1 R1 → Q v t1 I1 L1 R1) (hx : tX c e k r1 I L) (hf : sF k J0 I) (h5 : I (45 + 2 * k) 5 = Int32.ofNat f) (hfr : f ≤ r1) : pv_V G mX8_readNumber d 0 0 Q 0 0 97 [.ref (45 + 2 * k), .int x] [] t I L Rf := by
  have he := hx.2.1
  have hre := hx.2.2.2.2
  by_cases hlt : f < r1
  · skip
    refine pv_aload_0 (pc := 97) dX8_readNumber_97 ?_
    refine pv_aload_0 (pc := 98) dX8_readNumber_98 ?_
    refine pv_getI (pc := 99) dX8_readNumber_99 fg_X8_42_8 rfl (by omega) (sx_sh hT hk8) ?_
    refine pv_aload_0 (pc := 102) dX8_readNumber_102 ?_
    refine pv_getI (pc := 103) dX8_readNumber_103 fg_X8_42_8 rfl (by omega) (sx_sh hT hk8) ?_
    refine pv_aload_0 (pc := 106) dX8_readNumber_106 ?_
    refine pv_getI (pc := 107) dX8_readNumber_107 fg_X8_71_8 rfl (by omega) (sx_sh hT hk8) ?_
    refine pv_icmp_le (pc := 110) (tgt := 117) dX8_readNumber_110 (by decide) (fun h110 => absurd h110 (by rw [hx.2.2.2.1, h5, i_lt, i_of (by omega), i_of (by omega)]; omega)) (fun h110 => ?_)
    refine pv_iconst (pc := 113) (v := 1) dX8_readNumber_113 (by decide) ?_
    refine pv_goto (pc := 114) (tgt := 118) dX8_readNumber_114 (by decide) ?_
    refine pv_callV1 (pc := 118) dX8_readNumber_118 mgX8_fits lv_X8_53_8 (by omega) (sx_sh hT hk8) (by omega) (c_X8_fits (b := true) hT hR hk8) rfl rfl (by decide) ?_
    refine pv_if_eq (pc := 121) (tgt := 128) dX8_readNumber_121 (by decide) (fun q => absurd q (by decide)) (fun _ => ?_)
    refine pv_iload_1 (pc := 124) dX8_readNumber_124 ?_
    refine pv_goto (pc := 125) (tgt := 129) dX8_readNumber_125 (by decide) ?_
    refine pv_iret (pc := 129) dX8_readNumber_129 rfl rfl ?_
    refine hQ _ _ _ _ _ ⟨rfl, rfl, rfl, hf, by rw [if_pos hlt], hx.2.2.2.1, h5, fun q => absurd hlt q, hx.2.2.2.2⟩
  · skip
    refine pv_aload_0 (pc := 97) dX8_readNumber_97 ?_
    refine pv_aload_0 (pc := 98) dX8_readNumber_98 ?_
    refine pv_getI (pc := 99) dX8_readNumber_99 fg_X8_42_8 rfl (by omega) (sx_sh hT hk8) ?_
    refine pv_aload_0 (pc := 102) dX8_readNumber_102 ?_
    refine pv_getI (pc := 103) dX8_readNumber_103 fg_X8_42_8 rfl (by omega) (sx_sh hT hk8) ?_
    refine pv_aload_0 (pc := 106) dX8_readNumber_106 ?_
    refine pv_getI (pc := 107) dX8_readNumber_107 fg_X8_71_8 rfl (by omega) (sx_sh hT hk8) ?_
    refine pv_icmp_le (pc := 110) (tgt := 117) dX8_readNumber_110 (by decide) (fun h110 => ?_) (fun h110 => absurd h110 (by rw [hx.2.2.2.1, h5, i_lt, i_of (by omega), i_of (by omega)]; omega))
    refine pv_iconst (pc := 117) (v := 0) dX8_readNumber_117 (by decide) ?_
    refine pv_callV1 (pc := 118) dX8_readNumber_118 mgX8_fits lv_X8_53_8 (by omega) (sx_sh hT hk8) (by omega) (c_X8_fits (b := false) hT hR hk8) rfl rfl (by decide) ?_
    refine pv_if_eq (pc := 121) (tgt := 128) dX8_readNumber_121 (by decide) (fun _ => ?_) (fun q => absurd q (by decide))
    refine pv_iconst (pc := 128) (v := (-1)) dX8_readNumber_128 (by decide) ?_
    refine pv_iret (pc := 129) dX8_readNumber_129 rfl rfl ?_
    rw [hx.2.2.2.1]
    exact hQ _ _ _ _ _ ⟨rfl, rfl, rfl, hf.u 6 _ (by omega), by rw [if_neg hlt], by rw [if_neg (by decide), pv_u_o _ (by omega)]; exact hx.2.2.2.1, by rw [if_neg (by decide), pv_u_o _ (by omega)]; exact h5, fun _ => by rw [if_neg (by decide), pv_u_eq, if_pos rfl], hx.2.2.2.2⟩

set_option maxRecDepth 100000 in
set_option maxHeartbeats 4000000 in
theorem l_dig {G : pv_G} {d k e f : Nat} {c : Nat → Int32} {t : pv_T} {L : pv_L} {Rf : pv_R} {J0 : pv_I} (hT : sh_ok t) (hR : rf_ok Rf) (hk8 : k < 8) (hd : 4 ≤ d) {Q : pv_Q} {p : Nat × Int32} (hQ : ∀ v t1 I1 L1 R1, q_dg e k f p J0 t L Rf v t1 I1 L1 R1 → Q v t1 I1 L1 R1) : ∀ (m r1 : Nat) (x : Int32) (I : pv_I), r1 + m = f + 3 → tX c e k r1 I L → sF k J0 I → I (45 + 2 * k) 5 = Int32.ofNat f → f ≤ r1 → p = b_dg c e m r1 x → pv_V G mX8_readNumber d 0 0 Q 0 0 21 [.ref (45 + 2 * k), .int x] [] t I L Rf := by
  intro m
  induction m with
  | zero =>
    intro r1 x I hr hx hf h5 hfr hp
    have he := hx.2.1
    have hre := hx.2.2.2.2
    rw [b_dg] at hp
    refine pv_aload_0 (pc := 21) dX8_readNumber_21 ?_
    refine pv_getI (pc := 22) dX8_readNumber_22 fg_X8_42_8 rfl (by omega) (sx_sh hT hk8) ?_
    refine pv_aload_0 (pc := 25) dX8_readNumber_25 ?_
    refine pv_getI (pc := 26) dX8_readNumber_26 fg_X8_71_8 rfl (by omega) (sx_sh hT hk8) ?_
    refine pv_iconst (pc := 29) (v := 3) dX8_readNumber_29 (by decide) ?_
    refine pv_iadd (pc := 30) dX8_readNumber_30 ?_
    refine pv_icmp_ge (pc := 31) (tgt := 97) dX8_readNumber_31 (by decide) (fun h31 => ?_) (fun h31 => absurd h31 (by rw [hx.2.2.2.1, h5, x_f3, i_lt, i_of (by omega), i_of (by omega)]; omega))
    rw [hp] at hQ
    exact l_dge hT hR hk8 hd hQ hx hf h5 hfr
  | succ m ih =>
    intro r1 x I hr hx hf h5 hfr hp
    have he := hx.2.1
    have hre := hx.2.2.2.2
    rw [b_dg] at hp
    by_cases hre2 : r1 < e
    · by_cases g48 : c r1 < 48
      · rw [if_neg (by unfold b_isD; rw [decide_eq_false (p := 48 ≤ c r1) (by rw [i_le]; rw [i_lt] at g48; omega)]; simp)] at hp
        refine pv_aload_0 (pc := 21) dX8_readNumber_21 ?_
        refine pv_getI (pc := 22) dX8_readNumber_22 fg_X8_42_8 rfl (by omega) (sx_sh hT hk8) ?_
        refine pv_aload_0 (pc := 25) dX8_readNumber_25 ?_
        refine pv_getI (pc := 26) dX8_readNumber_26 fg_X8_71_8 rfl (by omega) (sx_sh hT hk8) ?_
        refine pv_iconst (pc := 29) (v := 3) dX8_readNumber_29 (by decide) ?_
        refine pv_iadd (pc := 30) dX8_readNumber_30 ?_
        refine pv_icmp_ge (pc := 31) (tgt := 97) dX8_readNumber_31 (by decide) (fun h31 => absurd h31 (not_not_intro (by rw [hx.2.2.2.1, h5, x_f3, i_lt, i_of (by omega), i_of (by omega)]; omega))) (fun h31 => ?_)
        refine pv_aload_0 (pc := 34) dX8_readNumber_34 ?_
        refine pv_callV1 (pc := 35) dX8_readNumber_35 mgX8_isRead lv_X8_45_8 (by omega) (sx_sh hT hk8) (by omega) (c_X8_isRead hT hR hk8 hx) rfl rfl (by decide) ?_
        refine pv_if_ne (pc := 38) (tgt := 97) dX8_readNumber_38 (by decide) (fun h38 => absurd h38 (not_not_intro (by rw [decide_eq_true hre2]; rfl))) (fun h38 => ?_)
        refine pv_aload_0 (pc := 41) dX8_readNumber_41 ?_
        refine pv_aload_0 (pc := 42) dX8_readNumber_42 ?_
        refine pv_getI (pc := 43) dX8_readNumber_43 fg_X8_42_8 rfl (by omega) (sx_sh hT hk8) ?_
        refine pv_topv2 (y := Int32.ofNat r1) hx.2.2.2.1 ?_
        refine pv_callV1 (pc := 46) dX8_readNumber_46 mgX8_asInt lv_X8_49_8 (by omega) (sx_sh hT hk8) (by omega) (c_asInt_at (v := c r1) hT hR hk8 (by rw [hx.1, i_of (by omega)]; omega) (by rw [hx.1, i_of (by omega)]; omega) (hx.2.2.1 r1 (by omega))) rfl rfl (by decide) ?_
        refine pv_bipush (pc := 49) (v := 48) dX8_readNumber_49 (by decide) ?_
        refine pv_icmp_lt (pc := 51) (tgt := 97) dX8_readNumber_51 (by decide) (fun h51 => ?_) (fun h51 => absurd h51 (not_not_intro g48))
        rw [hp] at hQ
        exact l_dge hT hR hk8 hd hQ hx hf h5 hfr
      · by_cases g57 : 57 < c r1
        · rw [if_neg (by unfold b_isD; rw [decide_eq_false (p := c r1 ≤ 57) (by rw [i_le]; rw [i_lt] at g57; omega)]; simp)] at hp
          refine pv_aload_0 (pc := 21) dX8_readNumber_21 ?_
          refine pv_getI (pc := 22) dX8_readNumber_22 fg_X8_42_8 rfl (by omega) (sx_sh hT hk8) ?_
          refine pv_aload_0 (pc := 25) dX8_readNumber_25 ?_
          refine pv_getI (pc := 26) dX8_readNumber_26 fg_X8_71_8 rfl (by omega) (sx_sh hT hk8) ?_
          refine pv_iconst (pc := 29) (v := 3) dX8_readNumber_29 (by decide) ?_
          refine pv_iadd (pc := 30) dX8_readNumber_30 ?_
          refine pv_icmp_ge (pc := 31) (tgt := 97) dX8_readNumber_31 (by decide) (fun h31 => absurd h31 (not_not_intro (by rw [hx.2.2.2.1, h5, x_f3, i_lt, i_of (by omega), i_of (by omega)]; omega))) (fun h31 => ?_)
          refine pv_aload_0 (pc := 34) dX8_readNumber_34 ?_
          refine pv_callV1 (pc := 35) dX8_readNumber_35 mgX8_isRead lv_X8_45_8 (by omega) (sx_sh hT hk8) (by omega) (c_X8_isRead hT hR hk8 hx) rfl rfl (by decide) ?_
          refine pv_if_ne (pc := 38) (tgt := 97) dX8_readNumber_38 (by decide) (fun h38 => absurd h38 (not_not_intro (by rw [decide_eq_true hre2]; rfl))) (fun h38 => ?_)
          refine pv_aload_0 (pc := 41) dX8_readNumber_41 ?_
          refine pv_aload_0 (pc := 42) dX8_readNumber_42 ?_
          refine pv_getI (pc := 43) dX8_readNumber_43 fg_X8_42_8 rfl (by omega) (sx_sh hT hk8) ?_
          refine pv_topv2 (y := Int32.ofNat r1) hx.2.2.2.1 ?_
          refine pv_callV1 (pc := 46) dX8_readNumber_46 mgX8_asInt lv_X8_49_8 (by omega) (sx_sh hT hk8) (by omega) (c_asInt_at (v := c r1) hT hR hk8 (by rw [hx.1, i_of (by omega)]; omega) (by rw [hx.1, i_of (by omega)]; omega) (hx.2.2.1 r1 (by omega))) rfl rfl (by decide) ?_
          refine pv_bipush (pc := 49) (v := 48) dX8_readNumber_49 (by decide) ?_
          refine pv_icmp_lt (pc := 51) (tgt := 97) dX8_readNumber_51 (by decide) (fun h51 => absurd h51 g48) (fun h51 => ?_)
          refine pv_aload_0 (pc := 54) dX8_readNumber_54 ?_
          refine pv_aload_0 (pc := 55) dX8_readNumber_55 ?_
          refine pv_getI (pc := 56) dX8_readNumber_56 fg_X8_42_8 rfl (by omega) (sx_sh hT hk8) ?_
          refine pv_topv2 (y := Int32.ofNat r1) hx.2.2.2.1 ?_
          refine pv_callV1 (pc := 59) dX8_readNumber_59 mgX8_asInt lv_X8_49_8 (by omega) (sx_sh hT hk8) (by omega) (c_asInt_at (v := c r1) hT hR hk8 (by rw [hx.1, i_of (by omega)]; omega) (by rw [hx.1, i_of (by omega)]; omega) (hx.2.2.1 r1 (by omega))) rfl rfl (by decide) ?_
          refine pv_bipush (pc := 62) (v := 57) dX8_readNumber_62 (by decide) ?_
          refine pv_icmp_gt (pc := 64) (tgt := 97) dX8_readNumber_64 (by decide) (fun h64 => ?_) (fun h64 => absurd h64 (not_not_intro g57))
          rw [hp] at hQ
          exact l_dge hT hR hk8 hd hQ hx hf h5 hfr
        · rw [if_pos (by unfold b_isD; rw [decide_eq_true hre2, decide_eq_true (p := 48 ≤ c r1) (by rw [i_le]; rw [i_lt] at g48; omega), decide_eq_true (p := c r1 ≤ 57) (by rw [i_le]; rw [i_lt] at g57; omega)]; rfl)] at hp
          refine pv_aload_0 (pc := 21) dX8_readNumber_21 ?_
          refine pv_getI (pc := 22) dX8_readNumber_22 fg_X8_42_8 rfl (by omega) (sx_sh hT hk8) ?_
          refine pv_aload_0 (pc := 25) dX8_readNumber_25 ?_
          refine pv_getI (pc := 26) dX8_readNumber_26 fg_X8_71_8 rfl (by omega) (sx_sh hT hk8) ?_
          refine pv_iconst (pc := 29) (v := 3) dX8_readNumber_29 (by decide) ?_
          refine pv_iadd (pc := 30) dX8_readNumber_30 ?_
          refine pv_icmp_ge (pc := 31) (tgt := 97) dX8_readNumber_31 (by decide) (fun h31 => absurd h31 (not_not_intro (by rw [hx.2.2.2.1, h5, x_f3, i_lt, i_of (by omega), i_of (by omega)]; omega))) (fun h31 => ?_)
          refine pv_aload_0 (pc := 34) dX8_readNumber_34 ?_
          refine pv_callV1 (pc := 35) dX8_readNumber_35 mgX8_isRead lv_X8_45_8 (by omega) (sx_sh hT hk8) (by omega) (c_X8_isRead hT hR hk8 hx) rfl rfl (by decide) ?_
          refine pv_if_ne (pc := 38) (tgt := 97) dX8_readNumber_38 (by decide) (fun h38 => absurd h38 (not_not_intro (by rw [decide_eq_true hre2]; rfl))) (fun h38 => ?_)
          refine pv_aload_0 (pc := 41) dX8_readNumber_41 ?_
          refine pv_aload_0 (pc := 42) dX8_readNumber_42 ?_
          refine pv_getI (pc := 43) dX8_readNumber_43 fg_X8_42_8 rfl (by omega) (sx_sh hT hk8) ?_
          refine pv_topv2 (y := Int32.ofNat r1) hx.2.2.2.1 ?_
          refine pv_callV1 (pc := 46) dX8_readNumber_46 mgX8_asInt lv_X8_49_8 (by omega) (sx_sh hT hk8) (by omega) (c_asInt_at (v := c r1) hT hR hk8 (by rw [hx.1, i_of (by omega)]; omega) (by rw [hx.1, i_of (by omega)]; omega) (hx.2.2.1 r1 (by omega))) rfl rfl (by decide) ?_
          refine pv_bipush (pc := 49) (v := 48) dX8_readNumber_49 (by decide) ?_
          refine pv_icmp_lt (pc := 51) (tgt := 97) dX8_readNumber_51 (by decide) (fun h51 => absurd h51 g48) (fun h51 => ?_)
          refine pv_aload_0 (pc := 54) dX8_readNumber_54 ?_
          refine pv_aload_0 (pc := 55) dX8_readNumber_55 ?_
          refine pv_getI (pc := 56) dX8_readNumber_56 fg_X8_42_8 rfl (by omega) (sx_sh hT hk8) ?_
          refine pv_topv2 (y := Int32.ofNat r1) hx.2.2.2.1 ?_
          refine pv_callV1 (pc := 59) dX8_readNumber_59 mgX8_asInt lv_X8_49_8 (by omega) (sx_sh hT hk8) (by omega) (c_asInt_at (v := c r1) hT hR hk8 (by rw [hx.1, i_of (by omega)]; omega) (by rw [hx.1, i_of (by omega)]; omega) (hx.2.2.1 r1 (by omega))) rfl rfl (by decide) ?_
          refine pv_bipush (pc := 62) (v := 57) dX8_readNumber_62 (by decide) ?_
          refine pv_icmp_gt (pc := 64) (tgt := 97) dX8_readNumber_64 (by decide) (fun h64 => absurd h64 g57) (fun h64 => ?_)
          refine pv_iload_1 (pc := 67) dX8_readNumber_67 ?_
          refine pv_bipush (pc := 68) (v := 10) dX8_readNumber_68 (by decide) ?_
          refine pv_imul (pc := 70) dX8_readNumber_70 ?_
          refine pv_aload_0 (pc := 71) dX8_readNumber_71 ?_
          refine pv_aload_0 (pc := 72) dX8_readNumber_72 ?_
          refine pv_getI (pc := 73) dX8_readNumber_73 fg_X8_42_8 rfl (by omega) (sx_sh hT hk8) ?_
          refine pv_topv2 (y := Int32.ofNat r1) hx.2.2.2.1 ?_
          refine pv_callV1 (pc := 76) dX8_readNumber_76 mgX8_asInt lv_X8_49_8 (by omega) (sx_sh hT hk8) (by omega) (c_asInt_at (v := c r1) hT hR hk8 (by rw [hx.1, i_of (by omega)]; omega) (by rw [hx.1, i_of (by omega)]; omega) (hx.2.2.1 r1 (by omega))) rfl rfl (Nat.le_of_ble_eq_true rfl) ?_
          refine pv_iadd (pc := 79) dX8_readNumber_79 ?_
          refine pv_bipush (pc := 80) (v := 48) dX8_readNumber_80 (by decide) ?_
          refine pv_isub (pc := 82) dX8_readNumber_82 ?_
          refine pv_topv2 (y := 10 * x + c r1 - 48) (by rw [Int32.mul_comm]) ?_
          refine pv_istore_1 (pc := 83) dX8_readNumber_83 (by decide) rfl ?_
          refine pv_aload_0 (pc := 84) dX8_readNumber_84 ?_
          refine pv_dup (pc := 85) dX8_readNumber_85 rfl ?_
          refine pv_getI (pc := 86) dX8_readNumber_86 fg_X8_42_8 rfl (by omega) (sx_sh hT hk8) ?_
          refine pv_iconst (pc := 89) (v := 1) dX8_readNumber_89 (by decide) ?_
          refine pv_iadd (pc := 90) dX8_readNumber_90 ?_
          refine pv_putI (pc := 91) dX8_readNumber_91 fl_X8_42_8 (fun q => by cases q) ⟨rfl, rfl, rfl⟩ (by omega) (sx_sh hT hk8) ?_
          refine pv_goto (pc := 94) (tgt := 21) dX8_readNumber_94 (by decide) ?_
          rw [hx.2.2.2.1, i_inc]
          exact ih (r1 + 1) _ _ (by omega) (hx.at (by omega)) (hf.u 4 _ (by omega)) (by rw [pv_u_o _ (by omega)]; exact h5) (by omega) hp
    · rw [if_neg (by unfold b_isD; rw [decide_eq_false hre2]; simp)] at hp
      refine pv_aload_0 (pc := 21) dX8_readNumber_21 ?_
      refine pv_getI (pc := 22) dX8_readNumber_22 fg_X8_42_8 rfl (by omega) (sx_sh hT hk8) ?_
      refine pv_aload_0 (pc := 25) dX8_readNumber_25 ?_
      refine pv_getI (pc := 26) dX8_readNumber_26 fg_X8_71_8 rfl (by omega) (sx_sh hT hk8) ?_
      refine pv_iconst (pc := 29) (v := 3) dX8_readNumber_29 (by decide) ?_
      refine pv_iadd (pc := 30) dX8_readNumber_30 ?_
      refine pv_icmp_ge (pc := 31) (tgt := 97) dX8_readNumber_31 (by decide) (fun h31 => absurd h31 (not_not_intro (by rw [hx.2.2.2.1, h5, x_f3, i_lt, i_of (by omega), i_of (by omega)]; omega))) (fun h31 => ?_)
      refine pv_aload_0 (pc := 34) dX8_readNumber_34 ?_
      refine pv_callV1 (pc := 35) dX8_readNumber_35 mgX8_isRead lv_X8_45_8 (by omega) (sx_sh hT hk8) (by omega) (c_X8_isRead hT hR hk8 hx) rfl rfl (by decide) ?_
      refine pv_if_ne (pc := 38) (tgt := 97) dX8_readNumber_38 (by decide) (fun h38 => ?_) (fun h38 => absurd h38 (by rw [decide_eq_false hre2]; decide))
      rw [hp] at hQ
      exact l_dge hT hR hk8 hd hQ hx hf h5 hfr

set_option maxRecDepth 100000 in
set_option maxHeartbeats 4000000 in
theorem c_X8_readNumber {G : pv_G} {d : Nat} {c : Nat → Int32} {e r : Nat} {k : Nat} {t : pv_T} {I : pv_I} {L : pv_L} {Rf : pv_R} (hT : sh_ok t) (hR : rf_ok Rf) (hk8 : k < 8) (hx : tX c e k r I L) (hd : 6 ≤ d) : pv_Mt G mX8_readNumber d 0 0 [.ref (45 + 2 * k)] t I L Rf (q_rn c e k r t I L Rf) := by
  refine pv_mt mgX8_readNumber.2.2.2.2.2 [.ref (45 + 2 * k), .retAddr 0] rfl (Nat.le_of_ble_eq_true rfl) ?_
  have he := hx.2.1
  by_cases hc : r < e ∧ c r = 32
  · skip
    refine pv_aload_0 (pc := 0) dX8_readNumber_0 ?_
    refine pv_bipush (pc := 1) (v := 32) dX8_readNumber_1 (by decide) ?_
    refine pv_callV1 (pc := 3) dX8_readNumber_3 mgX8_reads lv_X8_67_8 (by omega) (sx_sh hT hk8) (by omega) (c_reads_t hT hR hk8 hx hc.1 hc.2 (by omega)) rfl rfl (by decide) ?_
    refine pv_if_ne (pc := 6) (tgt := 11) dX8_readNumber_6 (by decide) (fun _ => ?_) (fun q => absurd q (by decide))
    refine pv_aload_0 (pc := 11) dX8_readNumber_11 ?_
    refine pv_aload_0 (pc := 12) dX8_readNumber_12 ?_
    refine pv_getI (pc := 13) dX8_readNumber_13 fg_X8_42_8 rfl (by omega) (sx_sh hT hk8) ?_
    refine pv_putI (pc := 16) dX8_readNumber_16 fl_X8_71_8 (fun q => by cases q) ⟨rfl, rfl, rfl⟩ (by omega) (sx_sh hT hk8) ?_
    refine pv_iconst (pc := 19) (v := 0) dX8_readNumber_19 (by decide) ?_
    refine pv_istore_1 (pc := 20) dX8_readNumber_20 (by decide) rfl ?_
    rw [show pv_u I (45 + 2 * k) 4 (Int32.ofNat (r + 1)) (45 + 2 * k) 4 = Int32.ofNat (r + 1) by rw [pv_u_eq, if_pos rfl]]
    have hx1 := hx.at (r1 := r + 1) (by omega)
    have hx2 : tX c e k (r + 1) (pv_u (pv_u I (45 + 2 * k) 4 (Int32.ofNat (r + 1))) (45 + 2 * k) 5 (Int32.ofNat (r + 1))) L := hx1.fr (sF.rf.u 5 _ (by omega)) (by rw [pv_u_o _ (by omega)]; exact hx1.2.2.2.1) (by omega)
    refine l_dig (J0 := I) hT hR hk8 (by omega) (fun v t1 I1 L1 R1 hq => ?_) 3 (r + 1) 0 _ rfl hx2 ((sF.rf.u 4 _ (by omega)).u 5 _ (by omega)) (by rw [pv_u_eq, if_pos rfl]) (Nat.le_refl _) rfl
    obtain ⟨q1, q2, q3, q4, q5, q6, q7, q8, q9⟩ := hq
    refine ⟨q1, q2, q3, q4, ?_⟩
    have hb := b_dg_b (c := c) (e := e) 3 (r + 1) 0 1 (by decide) (by decide) (by decide)
    by_cases hD : b_isD c e (r + 1) = true
    · left
      have hlt : r + 1 < (b_dg c e 3 (r + 1) 0).1 := by
        rw [b_dg_s hD]
        have := (b_dg_le c e 2 (r + 1 + 1) (10 * 0 + c (r + 1) - 48)).1
        omega
      rw [if_pos hlt] at q5
      exact ⟨_, by unfold x_rn; rw [if_pos hc, if_pos hD], q5, hb.1, hb.2, q6, q7, q9, hlt⟩
    · right
      have hD2 : b_isD c e (r + 1) = false := by simpa using hD
      have e0 : b_dg c e 3 (r + 1) 0 = (r + 1, 0) := b_dg_n hD2
      rw [e0, if_neg (Nat.lt_irrefl _)] at q5
      rw [e0] at q8
      exact ⟨by unfold x_rn; rw [if_pos hc, if_neg hD], q5, by unfold x_rf; rw [if_pos hc]; exact q8 (Nat.lt_irrefl _)⟩
  · by_cases hre : r < e
    · skip
      refine pv_aload_0 (pc := 0) dX8_readNumber_0 ?_
      refine pv_bipush (pc := 1) (v := 32) dX8_readNumber_1 (by decide) ?_
      refine pv_callV1 (pc := 3) dX8_readNumber_3 mgX8_reads lv_X8_67_8 (by omega) (sx_sh hT hk8) (by omega) (c_reads_n hT hR hk8 hx hre (fun q => hc ⟨hre, q⟩) (by omega)) rfl rfl (by decide) ?_
      refine pv_if_ne (pc := 6) (tgt := 11) dX8_readNumber_6 (by decide) (fun q => absurd q (by decide)) (fun _ => ?_)
      refine pv_iconst (pc := 9) (v := (-1)) dX8_readNumber_9 (by decide) ?_
      refine pv_iret (pc := 10) dX8_readNumber_10 rfl rfl ?_
      refine ⟨rfl, rfl, rfl, sF.rf.u 6 _ (by omega), Or.inr ⟨?_, rfl, ?_⟩⟩
      · unfold x_rn; rw [if_neg hc]
      · unfold x_rf; rw [if_neg hc, pv_u_eq, if_pos rfl]
    · skip
      refine pv_aload_0 (pc := 0) dX8_readNumber_0 ?_
      refine pv_bipush (pc := 1) (v := 32) dX8_readNumber_1 (by decide) ?_
      refine pv_callV1 (pc := 3) dX8_readNumber_3 mgX8_reads lv_X8_67_8 (by omega) (sx_sh hT hk8) (by omega) (c_reads_e hT hR hk8 hx hre (by omega)) rfl rfl (by decide) ?_
      refine pv_if_ne (pc := 6) (tgt := 11) dX8_readNumber_6 (by decide) (fun q => absurd q (by decide)) (fun _ => ?_)
      refine pv_iconst (pc := 9) (v := (-1)) dX8_readNumber_9 (by decide) ?_
      refine pv_iret (pc := 10) dX8_readNumber_10 rfl rfl ?_
      refine ⟨rfl, rfl, rfl, sF.rf.u 6 _ (by omega), Or.inr ⟨?_, rfl, ?_⟩⟩
      · unfold x_rn; rw [if_neg hc]
      · unfold x_rf; rw [if_neg hc, pv_u_eq, if_pos rfl]

