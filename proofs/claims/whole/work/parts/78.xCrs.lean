/-! the class: crowds stepped -/
theorem take_s {α : Type} {l : List α} {i : Nat} {e : α} (h : l[i]? = some e) : l.take (i + 1) = l.take i ++ [e] := by
  have hi := (List.getElem?_eq_some_iff.mp h).1
  rw [List.take_succ_eq_append_getElem hi]
  rw [List.getElem?_eq_getElem hi] at h
  rw [Option.some.inj h]
theorem c_step_1 (s : Int32) (ok : Int64 × Int64 → Bool) (e : (Int64 × Int64) × Int32) (to : CL) : c_step s ok [e] to = if ok (s_stp s e.1) = true then c_add (s_stp s e.1) e.2 to else to := rfl
theorem c_less_app (s : Int32) (ok : Int64 × Int64 → Bool) (l : CL) (e : (Int64 × Int64) × Int32) : c_less s ok (l ++ [e]) = (c_less s ok l || !ok (s_stp s e.1)) := by
  unfold c_less
  rw [List.any_append]
  simp
theorem c_sum_app (g : Int64 × Int64 → Int32) : ∀ (l k : CL), c_sum g (l ++ k) = c_sum g l + c_sum g k
  | [], k => by rw [List.nil_append, c_sum_nil]; grind
  | e :: l, k => by rw [List.cons_append, c_sum, c_sum, c_sum_app g l k]; grind
theorem x_ok_w (m : Int64) (x : Int64 × Int64) : x_ok m x = !s_wide x.1 x.2 m := rfl

set_option maxRecDepth 100000 in
set_option maxHeartbeats 4000000 in
theorem c_X2_clear {G : pv_G} {d : Nat} {a : Nat} {t : pv_T} {I : pv_I} {L : pv_L} {Rf : pv_R} (hc : cr_ok t Rf a) (hd : 1 ≤ d) : pv_Mt G mX2_clear d 0 0 [.ref a] t I L Rf (fun v t1 I1 L1 R1 => v = none ∧ t1 = t ∧ L1 = L ∧ R1 = Rf ∧ XC a [] I1 L1 ∧ cG a I L I1 L1 ∧ I1 a 5 = 0) := by
  refine pv_mt mgX2_clear.2.2.2.2.2 [.ref a] rfl (Nat.le_of_ble_eq_true rfl) ?_
  refine pv_aload_0 (pc := 0) dX2_clear_0 ?_
  refine pv_getR (pc := 1) dX2_clear_1 fg_X2_20_2 rfl hc.1 hc.2.1 hc.2.2.2.2.2.2.2.2.2 ?_
  refine pv_iconst (pc := 4) (v := 0) dX2_clear_4 (by decide) ?_
  refine pv_callS0 (pc := 5) dX2_clear_5 mgJ7_fill_53178 ls_X2_23 (by omega) (c_J7_fill_53178 (by have := hc.1; omega) hc.2.2.2.2.2.1 (by decide)) rfl rfl (by decide) ?_
  refine pv_aload_0 (pc := 8) dX2_clear_8 ?_
  refine pv_iconst (pc := 9) (v := 0) dX2_clear_9 (by decide) ?_
  refine pv_putI (pc := 10) dX2_clear_10 fl_X2_29_2 (fun q => by cases q) ⟨rfl, rfl, rfl⟩ hc.1 hc.2.1 ?_
  refine pv_aload_0 (pc := 13) dX2_clear_13 ?_
  refine pv_iconst (pc := 14) (v := 0) dX2_clear_14 (by decide) ?_
  refine pv_putI (pc := 15) dX2_clear_15 fl_X2_33_2 (fun q => by cases q) ⟨rfl, rfl, rfl⟩ hc.1 hc.2.1 ?_
  refine pv_vret (pc := 18) dX2_clear_18 rfl ?_
  refine ⟨rfl, rfl, rfl, rfl, ⟨?_, Nat.zero_le _, List.nodup_nil, (fun j e he => by cases he), ?_⟩, ⟨fun b j q => ?_, fun _ _ _ => rfl⟩, ?_⟩
  · rw [pv_u_o _ (by omega), pv_u_eq, if_pos rfl]; rfl
  · refine h_ok_cg (h_ok_nil x_h) (fun j hj => ?_)
    rw [pv_u_o _ (by omega), pv_u_o _ (by omega)]
    unfold x_fl
    rw [if_pos ⟨rfl, hj⟩]
  · rw [pv_u_o _ (by omega), pv_u_o _ (by omega)]
    unfold x_fl
    rw [if_neg (by omega)]
  · rw [pv_u_eq, if_pos rfl]

set_option maxRecDepth 100000 in
set_option maxHeartbeats 4000000 in
theorem c_X2_begin {G : pv_G} {d : Nat} {a : Nat} {t : pv_T} {I : pv_I} {L : pv_L} {Rf : pv_R} (hT : sh_ok t) (hR : rf_ok Rf) (hc : cr_ok t Rf a) (ha : a = 35 ∨ a = 40) (hd : 3 ≤ d) : pv_Mt G mX2_begin d 0 0 [.ref a, .ref 21] t I L Rf (fun v t1 I1 L1 R1 => v = none ∧ t1 = t ∧ R1 = Rf ∧ XC a [((L 21 1, L 21 2), 1)] I1 L1 ∧ cG a I L I1 L1 ∧ I1 a 5 = 0) := by
  refine pv_mt mgX2_begin.2.2.2.2.2 [.ref a, .ref 21] rfl (Nat.le_of_ble_eq_true rfl) ?_
  refine pv_aload_0 (pc := 0) dX2_begin_0 ?_
  refine pv_callVq (pc := 1) dX2_begin_1 mgX2_clear lv_X2_37_2 hc.1 hc.2.1 (by omega) (c_X2_clear hc (by omega)) rfl rfl (by decide) (fun v t I L Rf hq => ?_)
  obtain ⟨rfl, rfl, rfl, rfl, hx0, hg0, h50⟩ := hq
  refine pv_aload_0 (pc := 4) dX2_begin_4 ?_
  refine pv_aload_1 (pc := 5) dX2_begin_5 ?_
  refine pv_getL (pc := 6) dX2_begin_6 fg_X2_40_4 (by decide) (sx_21 hT) ?_
  refine pv_aload_1 (pc := 9) dX2_begin_9 ?_
  refine pv_getL (pc := 10) dX2_begin_10 fg_X2_46_4 (by decide) (sx_21 hT) ?_
  refine pv_iconst (pc := 13) (v := 1) dX2_begin_13 (by decide) ?_
  refine pv_callVq (pc := 14) dX2_begin_14 mgX2_add lv_X2_49_2 hc.1 hc.2.1 (by omega) (c_X2_add (cl := []) hc hx0 (by show 1 ≤ 319; decide) (by omega)) rfl rfl (by decide) (fun v t I L Rf hq => ?_)
  obtain ⟨rfl, rfl, rfl, hx1, hg1, h51⟩ := hq
  refine pv_vret (pc := 17) dX2_begin_17 rfl ?_
  exact ⟨rfl, rfl, rfl, hx1, hg0.tr hg1, h51.trans h50⟩

set_option maxRecDepth 100000 in
set_option maxHeartbeats 4000000 in
theorem l_stepped {G : pv_G} {d a g : Nat} {s : Int32} {m : Int64} {cl to : CL} {f : Bool} {t : pv_T} {Rf : pv_R} {J0 : pv_I} {L0 : pv_L} (hc : cr_ok t Rf a) (hg : cr_ok t Rf g) (hag : a + 5 ≤ g ∨ g + 5 ≤ a) (hXg0 : XC g cl J0 L0) (hcap : ∀ i, (c_step s (x_ok m) (cl.take i) to).length ≤ 319) (hd : 4 ≤ d) : ∀ (n i : Nat) (I : pv_I) (L : pv_L) (l6 l8 : Value), i + n = cl.length → XC a (c_step s (x_ok m) (cl.take i) to) I L ∧ cG a J0 L0 I L ∧ I a 5 = pv_b (f || c_less s (x_ok m) (cl.take i)) → pv_V G mX2_addStepped d 0 0 (fun v t1 I1 L1 R1 => v = none ∧ t1 = t ∧ R1 = Rf ∧ XC a (c_step s (x_ok m) cl to) I1 L1 ∧ cG a J0 L0 I1 L1 ∧ I1 a 5 = pv_b (f || c_less s (x_ok m) cl)) 0 0 3 [.ref a, .ref g, .int s, .long m, .retAddr 0, .int (Int32.ofNat i), l6, .retAddr 0, l8, .retAddr 0] [] t I L Rf := by
  have hcl := hXg0.2.1
  intro n
  induction n with
  | zero =>
    intro i I L l6 l8 hi hI
    have hXg := hXg0.fr hI.2.1 hag
    have x4 := hXg.1
    refine pv_iload_5 (pc := 3) dX2_addStepped_3 ?_
    refine pv_aload_1 (pc := 5) dX2_addStepped_5 ?_
    refine pv_getI (pc := 6) dX2_addStepped_6 fg_X2_29_2 rfl hg.1 hg.2.1 ?_
    refine pv_icmp_ge (pc := 9) (tgt := 100) dX2_addStepped_9 (by decide) (fun h9 => ?_) (fun h9 => absurd h9 (by rw [x4]; have e0 := i_of (k := cl.length) (by omega); have e1 := i_of (k := i) (by omega); have q2 := x_lit2; simp only [i_lt]; omega))
    refine pv_vret (pc := 100) dX2_addStepped_100 rfl ?_
    rw [show i = cl.length by omega, List.take_length] at hI
    exact ⟨rfl, rfl, rfl, hI.1, hI.2.1, hI.2.2⟩
  | succ n ih =>
    intro i I L l6 l8 hi hI
    have hXg := hXg0.fr hI.2.1 hag
    have x4 := hXg.1
    refine pv_iload_5 (pc := 3) dX2_addStepped_3 ?_
    refine pv_aload_1 (pc := 5) dX2_addStepped_5 ?_
    refine pv_getI (pc := 6) dX2_addStepped_6 fg_X2_29_2 rfl hg.1 hg.2.1 ?_
    refine pv_icmp_ge (pc := 9) (tgt := 100) dX2_addStepped_9 (by decide) (fun h9 => absurd h9 (by rw [x4]; have e0 := i_of (k := cl.length) (by omega); have e1 := i_of (k := i) (by omega); have q2 := x_lit2; simp only [i_lt]; omega)) (fun h9 => ?_)
    obtain ⟨e, he⟩ : ∃ e, cl[i]? = some e := ⟨_, List.getElem?_eq_getElem (by omega)⟩
    have ei := i_nat (k := i) (by omega)
    obtain ⟨y1, y2, y3⟩ := hXg.2.2.2.1 i e he
    have ht := take_s he
    have hcp := hcap (i + 1)
    rw [ht, c_step_cons, c_step_1] at hcp
    refine pv_iload_5 (pc := 12) dX2_addStepped_12 ?_
    refine pv_sipush (pc := 14) (v := 320) dX2_addStepped_14 (by decide) ?_
    refine pv_icmp_ge (pc := 17) (tgt := 100) dX2_addStepped_17 (by decide) (fun h17 => absurd h17 (by have e0 := i_of (k := i) (by omega); have q := x_lits; have q2 := x_lit2; simp only [i_lt]; omega)) (fun h17 => ?_)
    refine pv_iload_2 (pc := 20) dX2_addStepped_20 ?_
    refine pv_aload_1 (pc := 21) dX2_addStepped_21 ?_
    refine pv_getR (pc := 22) dX2_addStepped_22 fg_X2_9_2 rfl hg.1 hg.2.1 hg.2.2.2.2.2.2.1 ?_
    refine pv_iload_5 (pc := 25) dX2_addStepped_25 ?_
    refine pv_laloadj (pc := 27) dX2_addStepped_27 (by have := hg.1; omega) hg.2.2.1 rfl (i_in (k := i) (by omega) (by decide)) ?_
    refine pv_aload_1 (pc := 28) dX2_addStepped_28 ?_
    refine pv_getR (pc := 29) dX2_addStepped_29 fg_X2_13_2 rfl hg.1 hg.2.1 hg.2.2.2.2.2.2.2.1 ?_
    refine pv_iload_5 (pc := 32) dX2_addStepped_32 ?_
    refine pv_laloadj (pc := 34) dX2_addStepped_34 (by have := hg.1; omega) hg.2.2.2.1 rfl (i_in (k := i) (by omega) (by decide)) ?_
    refine pv_callSN1 (pc := 35) dX2_addStepped_35 mgX11_stepP lsn_X2_53 (by omega) (c_X11_stepP ) rfl rfl (by decide) ?_
    rw [ei, y1, y2]
    refine pv_lstore_6 (pc := 38) dX2_addStepped_38 (by decide) rfl ?_
    refine pv_iload_2 (pc := 40) dX2_addStepped_40 ?_
    refine pv_aload_1 (pc := 41) dX2_addStepped_41 ?_
    refine pv_getR (pc := 42) dX2_addStepped_42 fg_X2_9_2 rfl hg.1 hg.2.1 hg.2.2.2.2.2.2.1 ?_
    refine pv_iload_5 (pc := 45) dX2_addStepped_45 ?_
    refine pv_laloadj (pc := 47) dX2_addStepped_47 (by have := hg.1; omega) hg.2.2.1 rfl (i_in (k := i) (by omega) (by decide)) ?_
    refine pv_aload_1 (pc := 48) dX2_addStepped_48 ?_
    refine pv_getR (pc := 49) dX2_addStepped_49 fg_X2_13_2 rfl hg.1 hg.2.1 hg.2.2.2.2.2.2.2.1 ?_
    refine pv_iload_5 (pc := 52) dX2_addStepped_52 ?_
    refine pv_laloadj (pc := 54) dX2_addStepped_54 (by have := hg.1; omega) hg.2.2.2.1 rfl (i_in (k := i) (by omega) (by decide)) ?_
    refine pv_callSN1 (pc := 55) dX2_addStepped_55 mgX11_stepQ lsn_X2_59 (by omega) (c_X11_stepQ (by omega)) rfl rfl (by decide) ?_
    rw [ei, y1, y2]
    refine pv_lstore_8 (pc := 58) dX2_addStepped_58 (by decide) rfl ?_
    refine pv_lload_6 (pc := 60) dX2_addStepped_60 ?_
    refine pv_lload_8 (pc := 62) dX2_addStepped_62 ?_
    refine pv_lload_3 (pc := 64) dX2_addStepped_64 ?_
    refine pv_callSN1 (pc := 65) dX2_addStepped_65 mgX11_isWide lsn_X2_62 (by omega) (c_X11_isWide ) rfl rfl (by decide) ?_
    refine pv_if_eq (pc := 68) (tgt := 79) dX2_addStepped_68 (by decide) (fun h68 => ?_) (fun h68 => ?_)
    · have hw : x_ok m (s_stp s e.1) = true := by
        rw [x_ok_w]
        have f1 : pv_b (s_wide (s_stepP s e.1.1 e.1.2) (s_stepQ s e.1.1 e.1.2) m) = 0 := by first | exact h68 | exact Classical.not_not.mp h68
        show (!s_wide (s_stepP s e.1.1 e.1.2) (s_stepQ s e.1.1 e.1.2) m) = true
        cases g : s_wide (s_stepP s e.1.1 e.1.2) (s_stepQ s e.1.1 e.1.2) m with
        | false => rfl
        | true => rw [g] at f1; exact absurd f1 (by decide)
      rw [if_pos hw] at hcp
      refine pv_aload_0 (pc := 79) dX2_addStepped_79 ?_
      refine pv_lload_6 (pc := 80) dX2_addStepped_80 ?_
      refine pv_lload_8 (pc := 82) dX2_addStepped_82 ?_
      refine pv_aload_1 (pc := 84) dX2_addStepped_84 ?_
      refine pv_getR (pc := 85) dX2_addStepped_85 fg_X2_16_2 rfl hg.1 hg.2.1 hg.2.2.2.2.2.2.2.2.1 ?_
      refine pv_iload_5 (pc := 88) dX2_addStepped_88 ?_
      refine pv_ialoadj (pc := 90) dX2_addStepped_90 hg.2.2.2.2.1 rfl (i_in (k := i) (by omega) (by decide)) ?_
      refine pv_topv2 (y := e.2) (by rw [ei]; exact y3) ?_
      refine pv_callVq (pc := 91) dX2_addStepped_91 mgX2_add lv_X2_49_2 hc.1 hc.2.1 (by omega) (c_X2_add hc hI.1 hcp (by omega)) rfl rfl (by decide) (fun v t I L Rf hq => ?_)
      obtain ⟨rfl, rfl, rfl, hxx, hgg, h55⟩ := hq
      refine pv_iinc_5 (pc := 94) (v := _ + 1) dX2_addStepped_94 rfl (by decide) rfl ?_
      refine pv_goto (pc := 97) (tgt := 3) dX2_addStepped_97 (by decide) ?_
      rw [i_inc]
      first
        | (have hw : x_ok m (s_stp s e.1) = false := by
             rw [x_ok_w]
             have f1 : ¬ pv_b (s_wide (s_stepP s e.1.1 e.1.2) (s_stepQ s e.1.1 e.1.2) m) = 0 := h68
             show (!s_wide (s_stepP s e.1.1 e.1.2) (s_stepQ s e.1.1 e.1.2) m) = false
             cases g : s_wide (s_stepP s e.1.1 e.1.2) (s_stepQ s e.1.1 e.1.2) m with
             | true => rfl
             | false => rw [g] at f1; exact absurd rfl f1
           refine ih (i + 1) _ _ _ _ (by omega) ⟨?_, hI.2.1.uI _ _ _ (by omega), ?_⟩
           · rw [ht, c_step_cons, c_step_1, if_neg (by rw [hw]; decide)]
             exact hI.1.cg (pv_u_o _ (by omega)) (fun _ => rfl) (fun _ => rfl) (fun _ => pv_u_o _ (by omega)) (fun _ => pv_u_o _ (by omega))
           · rw [ht, c_less_app, hw, Bool.not_false, Bool.or_true, Bool.or_true, pv_u_eq, if_pos rfl]; rfl)
        | (refine ih (i + 1) _ _ _ _ (by omega) ⟨?_, hI.2.1.tr hgg, ?_⟩
           · rw [ht, c_step_cons, c_step_1, if_pos hw]
             exact hxx
           · rw [ht, c_less_app, hw, Bool.not_true, Bool.or_false, h55]; exact hI.2.2)
    · refine pv_aload_0 (pc := 71) dX2_addStepped_71 ?_
      refine pv_iconst (pc := 72) (v := 1) dX2_addStepped_72 (by decide) ?_
      refine pv_putI (pc := 73) dX2_addStepped_73 fl_X2_33_2 (fun q => by cases q) ⟨rfl, rfl, rfl⟩ hc.1 hc.2.1 ?_
      refine pv_goto (pc := 76) (tgt := 94) dX2_addStepped_76 (by decide) ?_
      refine pv_iinc_5 (pc := 94) (v := _ + 1) dX2_addStepped_94 rfl (by decide) rfl ?_
      refine pv_goto (pc := 97) (tgt := 3) dX2_addStepped_97 (by decide) ?_
      rw [i_inc]
      first
        | (have hw : x_ok m (s_stp s e.1) = false := by
             rw [x_ok_w]
             have f1 : ¬ pv_b (s_wide (s_stepP s e.1.1 e.1.2) (s_stepQ s e.1.1 e.1.2) m) = 0 := h68
             show (!s_wide (s_stepP s e.1.1 e.1.2) (s_stepQ s e.1.1 e.1.2) m) = false
             cases g : s_wide (s_stepP s e.1.1 e.1.2) (s_stepQ s e.1.1 e.1.2) m with
             | true => rfl
             | false => rw [g] at f1; exact absurd rfl f1
           refine ih (i + 1) _ _ _ _ (by omega) ⟨?_, hI.2.1.uI _ _ _ (by omega), ?_⟩
           · rw [ht, c_step_cons, c_step_1, if_neg (by rw [hw]; decide)]
             exact hI.1.cg (pv_u_o _ (by omega)) (fun _ => rfl) (fun _ => rfl) (fun _ => pv_u_o _ (by omega)) (fun _ => pv_u_o _ (by omega))
           · rw [ht, c_less_app, hw, Bool.not_false, Bool.or_true, Bool.or_true, pv_u_eq, if_pos rfl]; rfl)
        | (refine ih (i + 1) _ _ _ _ (by omega) ⟨?_, hI.2.1.tr hgg, ?_⟩
           · rw [ht, c_step_cons, c_step_1, if_pos hw]
             exact hxx
           · rw [ht, c_less_app, hw, Bool.not_true, Bool.or_false, h55]; exact hI.2.2)

set_option maxRecDepth 100000 in
set_option maxHeartbeats 4000000 in
theorem c_X2_addStepped {G : pv_G} {d : Nat} {a g : Nat} {s : Int32} {m : Int64} {cl to : CL} {f : Bool} {t : pv_T} {I : pv_I} {L : pv_L} {Rf : pv_R} (hc : cr_ok t Rf a) (hg : cr_ok t Rf g) (hag : a + 5 ≤ g ∨ g + 5 ≤ a) (hXg : XC g cl I L) (hX : XC a to I L) (h5 : I a 5 = pv_b f) (hcap : ∀ i, (c_step s (x_ok m) (cl.take i) to).length ≤ 319) (hd : 4 ≤ d) : pv_Mt G mX2_addStepped d 0 0 [.ref a, .ref g, .int s, .long m] t I L Rf (fun v t1 I1 L1 R1 => v = none ∧ t1 = t ∧ R1 = Rf ∧ XC a (c_step s (x_ok m) cl to) I1 L1 ∧ cG a I L I1 L1 ∧ I1 a 5 = pv_b (f || c_less s (x_ok m) cl)) := by
  refine pv_mt mgX2_addStepped.2.2.2.2.2 [.ref a, .ref g, .int s, .long m, .retAddr 0, .retAddr 0, .retAddr 0, .retAddr 0, .retAddr 0, .retAddr 0] rfl (Nat.le_of_ble_eq_true rfl) ?_
  refine pv_iconst (pc := 0) (v := 0) dX2_addStepped_0 (by decide) ?_
  refine pv_istore_5 (pc := 1) dX2_addStepped_1 (by decide) rfl ?_
  exact l_stepped (f := f) hc hg hag hXg hcap hd cl.length 0 _ _ _ _ (by omega) ⟨hX, cG.rf, by rw [h5]; show pv_b f = pv_b (f || false); rw [Bool.or_false]⟩

set_option maxRecDepth 100000 in
set_option maxHeartbeats 4000000 in
theorem l_allRows {G : pv_G} {d : Nat} {a : Nat} {cl : CL} {t : pv_T} {I : pv_I} {L : pv_L} {Rf : pv_R} (hc : cr_ok t Rf a) (hX : XC a cl I L) : ∀ (n i : Nat) (z : Int32), i + n = cl.length → z = c_sum (fun _ => 1) (cl.take i) → pv_V G mX2_allRows d 0 0 (pv_is (some (.int (c_sum (fun _ => 1) cl))) t I L Rf) 0 0 4 [.ref a, .int z, .int (Int32.ofNat i)] [] t I L Rf := by
  have x4 := hX.1
  have hcl := hX.2.1
  intro n
  induction n with
  | zero =>
    intro i z hi hz
    skip
    refine pv_iload_2 (pc := 4) dX2_allRows_4 ?_
    refine pv_aload_0 (pc := 5) dX2_allRows_5 ?_
    refine pv_getI (pc := 6) dX2_allRows_6 fg_X2_29_2 rfl hc.1 hc.2.1 ?_
    refine pv_icmp_ge (pc := 9) (tgt := 34) dX2_allRows_9 (by decide) (fun h9 => ?_) (fun h9 => absurd h9 (by rw [x4]; have e0 := i_of (k := cl.length) (by omega); have e1 := i_of (k := i) (by omega); have q2 := x_lit2; simp only [i_lt]; omega))
    refine pv_iload_1 (pc := 34) dX2_allRows_34 ?_
    refine pv_iret (pc := 35) dX2_allRows_35 rfl rfl ?_
    rw [show i = cl.length by omega, List.take_length] at hz
    rw [hz]
    exact ⟨rfl, rfl, rfl, rfl, rfl⟩
  | succ n ih =>
    intro i z hi hz
    skip
    refine pv_iload_2 (pc := 4) dX2_allRows_4 ?_
    refine pv_aload_0 (pc := 5) dX2_allRows_5 ?_
    refine pv_getI (pc := 6) dX2_allRows_6 fg_X2_29_2 rfl hc.1 hc.2.1 ?_
    refine pv_icmp_ge (pc := 9) (tgt := 34) dX2_allRows_9 (by decide) (fun h9 => absurd h9 (by rw [x4]; have e0 := i_of (k := cl.length) (by omega); have e1 := i_of (k := i) (by omega); have q2 := x_lit2; simp only [i_lt]; omega)) (fun h9 => ?_)
    refine pv_iload_2 (pc := 12) dX2_allRows_12 ?_
    refine pv_sipush (pc := 13) (v := 320) dX2_allRows_13 (by decide) ?_
    refine pv_icmp_ge (pc := 16) (tgt := 34) dX2_allRows_16 (by decide) (fun h16 => absurd h16 (by have e0 := i_of (k := i) (by omega); have q := x_lits; have q2 := x_lit2; simp only [i_lt]; omega)) (fun h16 => ?_)
    obtain ⟨e, he⟩ : ∃ e, cl[i]? = some e := ⟨_, List.getElem?_eq_getElem (by omega)⟩
    have ei := i_nat (k := i) (by omega)
    obtain ⟨y1, y2, y3⟩ := hX.2.2.2.1 i e he
    have ht := take_s he
    refine pv_iload_1 (pc := 19) dX2_allRows_19 ?_
    refine pv_aload_0 (pc := 20) dX2_allRows_20 ?_
    refine pv_getR (pc := 21) dX2_allRows_21 fg_X2_16_2 rfl hc.1 hc.2.1 hc.2.2.2.2.2.2.2.2.1 ?_
    refine pv_iload_2 (pc := 24) dX2_allRows_24 ?_
    refine pv_ialoadj (pc := 25) dX2_allRows_25 hc.2.2.2.2.1 rfl (i_in (k := i) (by omega) (by decide)) ?_
    refine pv_iadd (pc := 26) dX2_allRows_26 ?_
    refine pv_topv2 (y := z + e.2) (by rw [ei, y3]) ?_
    refine pv_istore_1 (pc := 27) dX2_allRows_27 (by decide) rfl ?_
    refine pv_iinc_2 (pc := 28) (v := _ + 1) dX2_allRows_28 rfl (by decide) rfl ?_
    refine pv_goto (pc := 31) (tgt := 4) dX2_allRows_31 (by decide) ?_
    rw [i_inc]
    refine ih (i + 1) _ (by omega) ?_
    rw [ht, c_sum_app, hz, c_sum, c_sum_nil]; grind

set_option maxRecDepth 100000 in
set_option maxHeartbeats 4000000 in
theorem c_X2_allRows {G : pv_G} {d : Nat} {a : Nat} {cl : CL} {t : pv_T} {I : pv_I} {L : pv_L} {Rf : pv_R} (hc : cr_ok t Rf a) (hX : XC a cl I L)  : pv_Mt G mX2_allRows d 0 0 [.ref a] t I L Rf (pv_is (some (.int (c_sum (fun _ => 1) cl))) t I L Rf) := by
  refine pv_mt mgX2_allRows.2.2.2.2.2 [.ref a, .retAddr 0, .retAddr 0] rfl (Nat.le_of_ble_eq_true rfl) ?_
  refine pv_iconst (pc := 0) (v := 0) dX2_allRows_0 (by decide) ?_
  refine pv_istore_1 (pc := 1) dX2_allRows_1 (by decide) rfl ?_
  refine pv_iconst (pc := 2) (v := 0) dX2_allRows_2 (by decide) ?_
  refine pv_istore_2 (pc := 3) dX2_allRows_3 (by decide) rfl ?_
  exact l_allRows hc hX cl.length 0 0 (by omega) rfl

set_option maxRecDepth 100000 in
set_option maxHeartbeats 4000000 in
theorem c_X2_rowsTo {G : pv_G} {d : Nat} {p q : Int64} {a : Nat} {cl : CL} {t : pv_T} {I : pv_I} {L : pv_L} {Rf : pv_R} (hc : cr_ok t Rf a) (hX : XC a cl I L) (hd : 1 ≤ d) : pv_Mt G mX2_rowsTo d 0 0 [.ref a, .long p, .long q] t I L Rf (pv_is (some (.int (c_sum (fun x => if x = (p, q) then 1 else 0) cl))) t I L Rf) := by
  refine pv_mt mgX2_rowsTo.2.2.2.2.2 [.ref a, .long p, .retAddr 0, .long q, .retAddr 0, .retAddr 0] rfl (Nat.le_of_ble_eq_true rfl) ?_
  refine pv_aload_0 (pc := 0) dX2_rowsTo_0 ?_
  refine pv_getR (pc := 1) dX2_rowsTo_1 fg_X2_20_2 rfl hc.1 hc.2.1 hc.2.2.2.2.2.2.2.2.2 ?_
  refine pv_aload_0 (pc := 4) dX2_rowsTo_4 ?_
  refine pv_lload_1 (pc := 5) dX2_rowsTo_5 ?_
  refine pv_lload_3 (pc := 6) dX2_rowsTo_6 ?_
  refine pv_callVq (pc := 7) dX2_rowsTo_7 mgX2_slotOf lv_X2_66_2 hc.1 hc.2.1 (by omega) (c_X2_slotOf hc hX) rfl rfl (Nat.le_of_ble_eq_true rfl) (fun v t I L Rf hq => ?_)
  obtain ⟨⟨r0, rfl, hend⟩, rfl, rfl, rfl, rfl⟩ := hq
  have hr := hend.1
  have er := i_nat (k := r0) (by omega)
  have e4 := hX.1
  have hx2 := hX.2.1
  rcases hend.2 with ⟨s0, s1, s2⟩ | ⟨i, hi, s1, hg⟩
  · skip
    refine pv_ialoadj (pc := 10) dX2_rowsTo_10 hc.2.2.2.2.2.1 rfl (i_in (k := r0) (by omega) (by decide)) ?_
    refine pv_iconst (pc := 11) (v := 1) dX2_rowsTo_11 (by decide) ?_
    refine pv_isub (pc := 12) dX2_rowsTo_12 ?_
    refine pv_topv2 (y := -1) (by rw [er, s0]; decide) ?_
    refine pv_istore_5 (pc := 13) dX2_rowsTo_13 (by decide) rfl ?_
    refine pv_iload_5 (pc := 15) dX2_rowsTo_15 ?_
    refine pv_if_lt (pc := 17) (tgt := 39) dX2_rowsTo_17 (by decide) (fun _ => ?_) (fun q => absurd q (by decide))
    refine pv_iconst (pc := 39) (v := 0) dX2_rowsTo_39 (by decide) ?_
    refine pv_iret (pc := 40) dX2_rowsTo_40 rfl rfl ?_
    rw [c_sum_no _ s1]
    exact ⟨rfl, rfl, rfl, rfl, rfl⟩
  · have hil : i < cl.length := by rw [← c_keys_len]; exact hi
    have ei := i_nat (k := i) (by omega)
    obtain ⟨e, he⟩ : ∃ e, cl[i]? = some e := ⟨_, List.getElem?_eq_getElem hil⟩
    have hee : e = ((p, q), e.2) := by
      rw [c_keys_at he] at hg
      exact Prod.ext (Option.some.inj hg) rfl
    rw [hee] at he
    refine pv_ialoadj (pc := 10) dX2_rowsTo_10 hc.2.2.2.2.2.1 rfl (i_in (k := r0) (by omega) (by decide)) ?_
    refine pv_iconst (pc := 11) (v := 1) dX2_rowsTo_11 (by decide) ?_
    refine pv_isub (pc := 12) dX2_rowsTo_12 ?_
    refine pv_topv2 (y := Int32.ofNat i) (by rw [er, s1, ← i_inc]; grind) ?_
    refine pv_istore_5 (pc := 13) dX2_rowsTo_13 (by decide) rfl ?_
    refine pv_iload_5 (pc := 15) dX2_rowsTo_15 ?_
    refine pv_if_lt (pc := 17) (tgt := 39) dX2_rowsTo_17 (by decide) (fun h17 => absurd h17 (by have e0 := i_of (k := i) (by omega); have q := x_lits; have q2 := x_lit2; simp only [i_lt]; omega)) (fun h17 => ?_)
    refine pv_iload_5 (pc := 20) dX2_rowsTo_20 ?_
    refine pv_aload_0 (pc := 22) dX2_rowsTo_22 ?_
    refine pv_getI (pc := 23) dX2_rowsTo_23 fg_X2_29_2 rfl hc.1 hc.2.1 ?_
    refine pv_icmp_ge (pc := 26) (tgt := 39) dX2_rowsTo_26 (by decide) (fun h26 => absurd h26 (by rw [e4]; have e0 := i_of (k := cl.length) (by omega); have e1 := i_of (k := i) (by omega); simp only [i_lt]; omega)) (fun h26 => ?_)
    refine pv_aload_0 (pc := 29) dX2_rowsTo_29 ?_
    refine pv_getR (pc := 30) dX2_rowsTo_30 fg_X2_16_2 rfl hc.1 hc.2.1 hc.2.2.2.2.2.2.2.2.1 ?_
    refine pv_iload_5 (pc := 33) dX2_rowsTo_33 ?_
    refine pv_ialoadj (pc := 35) dX2_rowsTo_35 hc.2.2.2.2.1 rfl (i_in (k := i) (by omega) (by decide)) ?_
    refine pv_goto (pc := 36) (tgt := 40) dX2_rowsTo_36 (by decide) ?_
    refine pv_iret (pc := 40) dX2_rowsTo_40 rfl rfl ?_
    rw [c_sum_at cl i hX.2.2.1 he]
    refine ⟨congrArg (fun z => some (Value.int z)) ?_, rfl, rfl, rfl, rfl⟩
    rw [ei]
    exact (hX.2.2.2.1 i _ he).2.2

