/-! the class: an item read -/
section VSTW
variable {p : Program} {l : Launch} {e : Env} {R : Room} {s : State} {m : MethodId} {args : Array Value} {below : List Frame} {meth : Method} {c : Code} {H : Heap} {locs : List Loc} {cells slots : Nat} {Q : State → Prop}
variable {cc : ByteArray} {pc : Nat} {ls : Array Slot} {rest : List Value}
theorem va_ldcSw (hexec : p.tables.exec = Jvm.exec) (hb : c.code = cc) {own tx : String} {index q : Nat} (hown : s.vm.findClass own = some m.cls) (hZ : vk_R own index tx q s) (hdg : decode cc pc = .ok (.ldc_w index, 3))
    (k : W p l e R s m args below meth c H locs cells slots Q (F0 m (pc + 3) ls (.ref q :: rest))) : W p l e R s m args below meth c H locs cells slots Q (F0 m pc ls rest) := by
  intro T hT X
  obtain ⟨t, a1, b1⟩ := k T hT X
  exact ⟨t, X.ldcStringW hexec hown (text := tx) (a := q) hZ.1 hZ.2 (g := F0 m pc ls rest) rfl (by rw [hb]; exact hdg) t a1, b1⟩
end VSTW
theorem pv_ldcSw {G : pv_G} {M : pv_Mth} {d mc ms bc bs pc : Nat} {Q : pv_Q} {ls st : List Value} {t : pv_T} {I : pv_I} {L : pv_L} {Rf : pv_R} {idx i : Nat} (hd : decode M.2.1 pc = .ok (.ldc_w idx, 3)) (hM : M.1.cls = "TwoRopes") (hi : idx = 442 ∧ i = 2 ∨ idx = 454 ∧ i = 3 ∨ idx = 459 ∧ i = 4) (k : pv_V G M d mc ms Q bc bs (pc + 3) ls (.ref i :: st) t I L Rf) : pv_V G M d mc ms Q bc bs pc ls st t I L Rf := by
  intro R p l e s m args below meth c Z H locs cells slots lsA C F P S hl h1 h2
  have hE := C.2.2.2.2.2.2.2.2.1.2.2.2.2.1
  have ho := C.2.2.2.2.1
  rw [hM] at ho
  rcases hi with ⟨rfl, rfl⟩ | ⟨rfl, rfl⟩ | ⟨rfl, rfl⟩
  · exact va_ldcSw C.1 C.2.1 ho hE.1 hd (k R p l e s m args below meth c Z H locs cells slots lsA C F P S hl h1 h2)
  · exact va_ldcSw C.1 C.2.1 ho hE.2.1 hd (k R p l e s m args below meth c Z H locs cells slots lsA C F P S hl h1 h2)
  · exact va_ldcSw C.1 C.2.1 ho hE.2.2 hd (k R p l e s m args below meth c Z H locs cells slots lsA C F P S hl h1 h2)
theorem c_asInt_no {G : pv_G} {d k j : Nat} {t : pv_T} {I : pv_I} {L : pv_L} {Rf : pv_R} (hT : sh_ok t) (hR : rf_ok Rf) (hs8 : k < 8) (hj : ¬ (j : Int) < (I (45 + 2 * k) 2).toInt) (h2 : j < 2147483648) : pv_Mt G mX8_asInt d 0 0 [.ref (45 + 2 * k), .int (Int32.ofNat j)] t I L Rf (pv_is (some (.int 0)) t I L Rf) := by
  have h := c_X8_asInt (G := G) (d := d) (i := Int32.ofNat j) (k := k) (I := I) (L := L) hT hR hs8
  have e : ¬ x_has I k (Int32.ofNat j) = true := by
    have e0 := i_of h2
    unfold x_has
    simp only [Bool.and_eq_true, decide_eq_true_eq, i_le, i_lt, e0]
    omega
  rw [if_neg e] at h
  exact h
def x_one (c : Nat → Int32) (e r : Nat) (l : List Int32) (B : Nat → BR) : BR := if (b_lit c e l r).2 = true then B (b_lit c e l r).1 else .error (b_lit c e l r).1
def x_itm (c : Nat → Int32) (e r : Nat) (J1 : pv_I) (K1 : pv_L) : BR := if r < e ∧ c r = 102 then x_one c e r (x_wd 0) (fun r1 => if J1 0 0 = 8 then .error r else x_fig c e r1 J1 K1) else if r < e ∧ c r = 99 then x_one c e r (x_wd 1) (fun r1 => x_cll c e r1 J1 K1) else if r < e ∧ c r = 115 then x_one c e r (x_wd 2) (fun r1 => x_stt c e r1 J1 K1) else .error r
theorem sw_o {x : Int32} (h1 : ¬ x = 99) (h2 : ¬ x = 102) (h3 : ¬ x = 115) : Op.lookupswitch.offset [(99, 83), (102, 34), (115, 107)] 131 x.toInt = 131 := by
  rw [← Int32.toInt_inj] at h1 h2 h3
  have e1 : (99 : Int32).toInt = 99 := by decide
  have e2 : (102 : Int32).toInt = 102 := by decide
  have e3 : (115 : Int32).toInt = 115 := by decide
  rw [Op.lookupswitch.offset_cons, Op.lookupswitch.offset_cons, Op.lookupswitch.offset_cons, Op.lookupswitch.offset_nil, if_neg (by omega), if_neg (by omega), if_neg (by omega)]

set_option maxRecDepth 100000 in
set_option maxHeartbeats 4000000 in
theorem c_item_f {G : pv_G} {d : Nat} {J : pv_I} {t0 : pv_T} {I0 : pv_I} {L0 : pv_L} {Rf0 : pv_R} {k e : Nat} {c : Nat → Int32} {J1 : pv_I} {K1 : pv_L} {r : Nat} {t : pv_T} {I : pv_I} {L : pv_L} {Rf : pv_R} (hT0 : sh_ok t0) (hR0 : rf_ok Rf0) (hk8 : k < 8) (hB : tB J t0 I0 L0 Rf0 k e c J1 K1 t I L Rf r) (hF : fk_ok G) (hr : r < e ∧ c r = 102) (h8 : (J1 0 0).toInt < 8) (hd : 20 ≤ d) : pv_Mt G mX11_readItem d 1 5 [.ref 16, .ref (45 + 2 * k)] t I L Rf (q_it J t0 I0 L0 Rf0 k e c (x_itm c e r J1 K1)) := by
  refine pv_mt mgX11_readItem.2.2.2.2.2 [.ref 16, .ref (45 + 2 * k), .retAddr 0] rfl (Nat.le_of_ble_eq_true rfl) ?_
  have hT := hB.1.sh hT0
  have hR := hB.1.re hT0 hR0
  have hx := hB.2.2.2.1
  have he := hx.2.1
  have hre := hx.2.2.2.2
  have hx3 := hB.2.2.2.2.1.2.2.1
  have h8n : ¬ J1 0 0 = 8 := fun q => by rw [q] at h8; exact absurd h8 (by decide)
  have h8l : I 25 3 < 8 := by rw [hx3, i_lt, show (8 : Int32).toInt = 8 by decide]; exact h8
  refine pv_aload_1 (pc := 0) dX11_readItem_0 ?_
  refine pv_getI (pc := 1) dX11_readItem_1 fg_X11_439_8 rfl (by omega) (sx_sh hT hk8) ?_
  refine pv_topv2 (y := Int32.ofNat r) hB.2.2.2.1.2.2.2.1 ?_
  refine pv_istore_2 (pc := 4) dX11_readItem_4 (by decide) rfl ?_
  refine pv_aload_1 (pc := 5) dX11_readItem_5 ?_
  refine pv_iload_2 (pc := 6) dX11_readItem_6 ?_
  refine pv_callV1 (pc := 7) dX11_readItem_7 mgX8_asInt lv_X11_398_8 (by omega) (sx_sh hT hk8) (by omega) (c_asInt_at (v := 102) hT hR hk8 (by rw [hx.1, i_of (by omega)]; omega) (by rw [hx.1, i_of (by omega)]; omega) (by rw [hx.2.2.1 r (by omega)]; exact hr.2)) rfl rfl (by decide) ?_
  refine pv_lookup (pc := 10) (off := 34) (tgt := 44) dX11_readItem_10 (by decide) (by decide) (by decide) ?_
  refine pv_aload_1 (pc := 44) dX11_readItem_44 ?_
  refine pv_ldcSw (pc := 45) (i := 2) dX11_readItem_45 rfl (by decide) ?_
  refine pv_callVq (pc := 48) dX11_readItem_48 mgX8_readsWord lv_X11_443_8 (by omega) (sx_sh hT hk8) (by omega) (c_X8_readsWord (i := 0) hT hR hk8 hF (by omega) hB.2.2.2.1 (by omega)) rfl rfl (by decide) (fun v t I L Rf hq => ?_)
  obtain ⟨rfl, rfl, rfl, hs, rfl, h4, h6⟩ := hq
  have hlle := b_lit_le c e (x_wd 0) r
  have hB1 := hB.rd hk8 hs h4 (hlle.2.2 (by omega))
  cases hl : (b_lit c e (x_wd 0) r).2 with
  | false =>
      refine pv_if_eq (pc := 51) (tgt := 91) dX11_readItem_51 (by decide) (fun _ => ?_) (fun q => absurd q (by decide))
      refine pv_iconst (pc := 91) (v := 0) dX11_readItem_91 (by decide) ?_
      refine pv_iret (pc := 92) dX11_readItem_92 rfl rfl ?_
      refine Or.inr ⟨_, ?_, rfl, hB.er hs (h6 hl)⟩
      unfold x_itm
      rw [if_pos hr]
      unfold x_one
      rw [if_neg (by rw [hl]; decide)]
  | true =>
      refine pv_if_eq (pc := 51) (tgt := 91) dX11_readItem_51 (by decide) (fun q => absurd q (by decide)) (fun _ => ?_)
      refine pv_aload_1 (pc := 54) dX11_readItem_54 ?_
      refine pv_iload_2 (pc := 55) dX11_readItem_55 ?_
      refine pv_aload_0 (pc := 56) dX11_readItem_56 ?_
      refine pv_getR (pc := 57) dX11_readItem_57 fg_X11_38_11 rfl (by decide) (sx_16 hT) (rx_16_6 hR) ?_
      refine pv_getI (pc := 60) dX11_readItem_60 fg_X11_151_4 rfl (by decide) (sx_25 hT) ?_
      refine pv_bipush (pc := 63) (v := 8) dX11_readItem_63 (by decide) ?_
      refine pv_icmp_ge (pc := 65) (tgt := 72) dX11_readItem_65 (by decide) (fun h65 => absurd h65 (not_not_intro (by rw [hB1.2.2.2.2.1.2.2.1, i_lt, show (8 : Int32).toInt = 8 by decide]; exact h8))) (fun h65 => ?_)
      refine pv_iconst (pc := 68) (v := 1) dX11_readItem_68 (by decide) ?_
      refine pv_goto (pc := 69) (tgt := 73) dX11_readItem_69 (by decide) ?_
      refine pv_callV1 (pc := 73) dX11_readItem_73 mgX8_fits lv_X11_447_8 (by omega) (sx_sh hT hk8) (by omega) (c_X8_fits (b := true) hT hR hk8) rfl rfl (by decide) ?_
      refine pv_if_eq (pc := 76) (tgt := 91) dX11_readItem_76 (by decide) (fun q => absurd q (by decide)) (fun _ => ?_)
      refine pv_aload_0 (pc := 79) dX11_readItem_79 ?_
      refine pv_aload_1 (pc := 80) dX11_readItem_80 ?_
      have hE : x_itm c e r J1 K1 = x_fig c e (b_lit c e (x_wd 0) r).1 J1 K1 := by
        unfold x_itm
        rw [if_pos hr]
        unfold x_one
        rw [if_pos hl]
        show (if J1 0 0 = 8 then _ else _) = _
        rw [if_neg h8n]
      refine pv_callV (bc := 0) (bs := 0) (d1 := d - 1) (pc := 81) dX11_readItem_81 mgX11_readFigure lv_X11_451_11 (by decide) (sx_16 hT) (by omega) (c_X11_readFigure hT0 hR0 hk8 hB1 h8 (by omega)) rfl rfl (Nat.le_of_ble_eq_true rfl) (fun v t I L Rf hq => ?_)
      rcases hq with ⟨r1, J2, K2, eB, rfl, hb2⟩ | ⟨x, eB, rfl, he2⟩
      · skip
        refine pv_if_eq (pc := 84) (tgt := 91) dX11_readItem_84 (by decide) (fun q => absurd q (by decide)) (fun _ => ?_)
        refine pv_iconst (pc := 87) (v := 1) dX11_readItem_87 (by decide) ?_
        refine pv_goto (pc := 88) (tgt := 92) dX11_readItem_88 (by decide) ?_
        refine pv_iret (pc := 92) dX11_readItem_92 rfl rfl ?_
        exact Or.inl ⟨r1, J2, K2, by rw [← eB, hE], rfl, hb2⟩
      · skip
        refine pv_if_eq (pc := 84) (tgt := 91) dX11_readItem_84 (by decide) (fun _ => ?_) (fun q => absurd q (by decide))
        refine pv_iconst (pc := 91) (v := 0) dX11_readItem_91 (by decide) ?_
        refine pv_iret (pc := 92) dX11_readItem_92 rfl rfl ?_
        exact Or.inr ⟨x, by rw [← eB, hE], rfl, he2⟩

set_option maxRecDepth 100000 in
set_option maxHeartbeats 4000000 in
theorem c_item_o {G : pv_G} {d : Nat} {J : pv_I} {t0 : pv_T} {I0 : pv_I} {L0 : pv_L} {Rf0 : pv_R} {k e : Nat} {c : Nat → Int32} {J1 : pv_I} {K1 : pv_L} {r : Nat} {t : pv_T} {I : pv_I} {L : pv_L} {Rf : pv_R} (hT0 : sh_ok t0) (hR0 : rf_ok Rf0) (hk8 : k < 8) (hB : tB J t0 I0 L0 Rf0 k e c J1 K1 t I L Rf r) (hF : fk_ok G) (hno : ¬ ((r < e ∧ c r = 102) ∧ ¬ J1 0 0 = 8)) (hd : 20 ≤ d) : pv_Mt G mX11_readItem d 0 0 [.ref 16, .ref (45 + 2 * k)] t I L Rf (q_it J t0 I0 L0 Rf0 k e c (x_itm c e r J1 K1)) := by
  refine pv_mt mgX11_readItem.2.2.2.2.2 [.ref 16, .ref (45 + 2 * k), .retAddr 0] rfl (Nat.le_of_ble_eq_true rfl) ?_
  have hT := hB.1.sh hT0
  have hR := hB.1.re hT0 hR0
  have hx := hB.2.2.2.1
  have he := hx.2.1
  have hre := hx.2.2.2.2
  have hx3 := hB.2.2.2.2.1.2.2.1
  by_cases h0 : r < e ∧ c r = 102
  · have hr := h0
    have h8e : J1 0 0 = 8 := Classical.byContradiction (fun q => hno ⟨h0, q⟩)
    refine pv_aload_1 (pc := 0) dX11_readItem_0 ?_
    refine pv_getI (pc := 1) dX11_readItem_1 fg_X11_439_8 rfl (by omega) (sx_sh hT hk8) ?_
    refine pv_topv2 (y := Int32.ofNat r) hB.2.2.2.1.2.2.2.1 ?_
    refine pv_istore_2 (pc := 4) dX11_readItem_4 (by decide) rfl ?_
    refine pv_aload_1 (pc := 5) dX11_readItem_5 ?_
    refine pv_iload_2 (pc := 6) dX11_readItem_6 ?_
    refine pv_callV1 (pc := 7) dX11_readItem_7 mgX8_asInt lv_X11_398_8 (by omega) (sx_sh hT hk8) (by omega) (c_asInt_at (v := 102) hT hR hk8 (by rw [hx.1, i_of (by omega)]; omega) (by rw [hx.1, i_of (by omega)]; omega) (by rw [hx.2.2.1 r (by omega)]; exact hr.2)) rfl rfl (by decide) ?_
    refine pv_lookup (pc := 10) (off := 34) (tgt := 44) dX11_readItem_10 (by decide) (by decide) (by decide) ?_
    refine pv_aload_1 (pc := 44) dX11_readItem_44 ?_
    refine pv_ldcSw (pc := 45) (i := 2) dX11_readItem_45 rfl (by decide) ?_
    refine pv_callVq (pc := 48) dX11_readItem_48 mgX8_readsWord lv_X11_443_8 (by omega) (sx_sh hT hk8) (by omega) (c_X8_readsWord (i := 0) hT hR hk8 hF (by omega) hB.2.2.2.1 (by omega)) rfl rfl (by decide) (fun v t I L Rf hq => ?_)
    obtain ⟨rfl, rfl, rfl, hs, rfl, h4, h6⟩ := hq
    have hlle := b_lit_le c e (x_wd 0) r
    have hB1 := hB.rd hk8 hs h4 (hlle.2.2 (by omega))
    cases hl : (b_lit c e (x_wd 0) r).2 with
    | false =>
        refine pv_if_eq (pc := 51) (tgt := 91) dX11_readItem_51 (by decide) (fun _ => ?_) (fun q => absurd q (by decide))
        refine pv_iconst (pc := 91) (v := 0) dX11_readItem_91 (by decide) ?_
        refine pv_iret (pc := 92) dX11_readItem_92 rfl rfl ?_
        refine Or.inr ⟨_, ?_, rfl, hB.er hs (h6 hl)⟩
        unfold x_itm
        rw [if_pos hr]
        unfold x_one
        rw [if_neg (by rw [hl]; decide)]
    | true =>
        refine pv_if_eq (pc := 51) (tgt := 91) dX11_readItem_51 (by decide) (fun q => absurd q (by decide)) (fun _ => ?_)
        refine pv_aload_1 (pc := 54) dX11_readItem_54 ?_
        refine pv_iload_2 (pc := 55) dX11_readItem_55 ?_
        refine pv_aload_0 (pc := 56) dX11_readItem_56 ?_
        refine pv_getR (pc := 57) dX11_readItem_57 fg_X11_38_11 rfl (by decide) (sx_16 hT) (rx_16_6 hR) ?_
        refine pv_getI (pc := 60) dX11_readItem_60 fg_X11_151_4 rfl (by decide) (sx_25 hT) ?_
        refine pv_bipush (pc := 63) (v := 8) dX11_readItem_63 (by decide) ?_
        refine pv_icmp_ge (pc := 65) (tgt := 72) dX11_readItem_65 (by decide) (fun h65 => ?_) (fun h65 => absurd h65 (by rw [hB1.2.2.2.2.1.2.2.1, h8e]; decide))
        refine pv_iconst (pc := 72) (v := 0) dX11_readItem_72 (by decide) ?_
        refine pv_callV1 (pc := 73) dX11_readItem_73 mgX8_fits lv_X11_447_8 (by omega) (sx_sh hT hk8) (by omega) (c_X8_fits (b := false) hT hR hk8) rfl rfl (by decide) ?_
        refine pv_if_eq (pc := 76) (tgt := 91) dX11_readItem_76 (by decide) (fun _ => ?_) (fun q => absurd q (by decide))
        refine pv_iconst (pc := 91) (v := 0) dX11_readItem_91 (by decide) ?_
        refine pv_iret (pc := 92) dX11_readItem_92 rfl rfl ?_
        refine Or.inr ⟨r, ?_, rfl, hB1.er (sF.rf.u 6 _ (by omega)) (by rw [if_neg (by decide), pv_u_eq, if_pos rfl])⟩
        unfold x_itm
        rw [if_pos hr]
        unfold x_one
        rw [if_pos hl]
        show (if J1 0 0 = 8 then _ else _) = _
        rw [if_pos h8e]
  · have hn0 := h0
    by_cases h1 : r < e ∧ c r = 99
    · have hr := h1
      refine pv_aload_1 (pc := 0) dX11_readItem_0 ?_
      refine pv_getI (pc := 1) dX11_readItem_1 fg_X11_439_8 rfl (by omega) (sx_sh hT hk8) ?_
      refine pv_topv2 (y := Int32.ofNat r) hB.2.2.2.1.2.2.2.1 ?_
      refine pv_istore_2 (pc := 4) dX11_readItem_4 (by decide) rfl ?_
      refine pv_aload_1 (pc := 5) dX11_readItem_5 ?_
      refine pv_iload_2 (pc := 6) dX11_readItem_6 ?_
      refine pv_callV1 (pc := 7) dX11_readItem_7 mgX8_asInt lv_X11_398_8 (by omega) (sx_sh hT hk8) (by omega) (c_asInt_at (v := 99) hT hR hk8 (by rw [hx.1, i_of (by omega)]; omega) (by rw [hx.1, i_of (by omega)]; omega) (by rw [hx.2.2.1 r (by omega)]; exact hr.2)) rfl rfl (by decide) ?_
      refine pv_lookup (pc := 10) (off := 83) (tgt := 93) dX11_readItem_10 (by decide) (by decide) (by decide) ?_
      refine pv_aload_1 (pc := 93) dX11_readItem_93 ?_
      refine pv_ldcSw (pc := 94) (i := 3) dX11_readItem_94 rfl (by decide) ?_
      refine pv_callVq (pc := 97) dX11_readItem_97 mgX8_readsWord lv_X11_443_8 (by omega) (sx_sh hT hk8) (by omega) (c_X8_readsWord (i := 1) hT hR hk8 hF (by omega) hB.2.2.2.1 (by omega)) rfl rfl (by decide) (fun v t I L Rf hq => ?_)
      obtain ⟨rfl, rfl, rfl, hs, rfl, h4, h6⟩ := hq
      have hlle := b_lit_le c e (x_wd 1) r
      have hB1 := hB.rd hk8 hs h4 (hlle.2.2 (by omega))
      cases hl : (b_lit c e (x_wd 1) r).2 with
      | false =>
          refine pv_if_eq (pc := 100) (tgt := 115) dX11_readItem_100 (by decide) (fun _ => ?_) (fun q => absurd q (by decide))
          refine pv_iconst (pc := 115) (v := 0) dX11_readItem_115 (by decide) ?_
          refine pv_iret (pc := 116) dX11_readItem_116 rfl rfl ?_
          refine Or.inr ⟨_, ?_, rfl, hB.er hs (h6 hl)⟩
          unfold x_itm
          rw [if_neg hn0, if_pos hr]
          unfold x_one
          rw [if_neg (by rw [hl]; decide)]
      | true =>
          refine pv_if_eq (pc := 100) (tgt := 115) dX11_readItem_100 (by decide) (fun q => absurd q (by decide)) (fun _ => ?_)
          refine pv_aload_0 (pc := 103) dX11_readItem_103 ?_
          refine pv_aload_1 (pc := 104) dX11_readItem_104 ?_
          have hE : x_itm c e r J1 K1 = x_cll c e (b_lit c e (x_wd 1) r).1 J1 K1 := by
            unfold x_itm
            rw [if_neg hn0, if_pos hr]
            unfold x_one
            rw [if_pos hl]
          refine pv_callVq (pc := 105) dX11_readItem_105 mgX11_readCall lv_X11_456_11 (by decide) (sx_16 hT) (by omega) (c_X11_readCall hT0 hR0 hk8 hB1 (by omega)) rfl rfl (Nat.le_of_ble_eq_true rfl) (fun v t I L Rf hq => ?_)
          rcases hq with ⟨r1, J2, K2, eB, rfl, hb2⟩ | ⟨x, eB, rfl, he2⟩
          · skip
            refine pv_if_eq (pc := 108) (tgt := 115) dX11_readItem_108 (by decide) (fun q => absurd q (by decide)) (fun _ => ?_)
            refine pv_iconst (pc := 111) (v := 1) dX11_readItem_111 (by decide) ?_
            refine pv_goto (pc := 112) (tgt := 116) dX11_readItem_112 (by decide) ?_
            refine pv_iret (pc := 116) dX11_readItem_116 rfl rfl ?_
            exact Or.inl ⟨r1, J2, K2, by rw [← eB, hE], rfl, hb2⟩
          · skip
            refine pv_if_eq (pc := 108) (tgt := 115) dX11_readItem_108 (by decide) (fun _ => ?_) (fun q => absurd q (by decide))
            refine pv_iconst (pc := 115) (v := 0) dX11_readItem_115 (by decide) ?_
            refine pv_iret (pc := 116) dX11_readItem_116 rfl rfl ?_
            exact Or.inr ⟨x, by rw [← eB, hE], rfl, he2⟩
    · have hn1 := h1
      by_cases h2 : r < e ∧ c r = 115
      · have hr := h2
        refine pv_aload_1 (pc := 0) dX11_readItem_0 ?_
        refine pv_getI (pc := 1) dX11_readItem_1 fg_X11_439_8 rfl (by omega) (sx_sh hT hk8) ?_
        refine pv_topv2 (y := Int32.ofNat r) hB.2.2.2.1.2.2.2.1 ?_
        refine pv_istore_2 (pc := 4) dX11_readItem_4 (by decide) rfl ?_
        refine pv_aload_1 (pc := 5) dX11_readItem_5 ?_
        refine pv_iload_2 (pc := 6) dX11_readItem_6 ?_
        refine pv_callV1 (pc := 7) dX11_readItem_7 mgX8_asInt lv_X11_398_8 (by omega) (sx_sh hT hk8) (by omega) (c_asInt_at (v := 115) hT hR hk8 (by rw [hx.1, i_of (by omega)]; omega) (by rw [hx.1, i_of (by omega)]; omega) (by rw [hx.2.2.1 r (by omega)]; exact hr.2)) rfl rfl (by decide) ?_
        refine pv_lookup (pc := 10) (off := 107) (tgt := 117) dX11_readItem_10 (by decide) (by decide) (by decide) ?_
        refine pv_aload_1 (pc := 117) dX11_readItem_117 ?_
        refine pv_ldcSw (pc := 118) (i := 4) dX11_readItem_118 rfl (by decide) ?_
        refine pv_callVq (pc := 121) dX11_readItem_121 mgX8_readsWord lv_X11_443_8 (by omega) (sx_sh hT hk8) (by omega) (c_X8_readsWord (i := 2) hT hR hk8 hF (by omega) hB.2.2.2.1 (by omega)) rfl rfl (by decide) (fun v t I L Rf hq => ?_)
        obtain ⟨rfl, rfl, rfl, hs, rfl, h4, h6⟩ := hq
        have hlle := b_lit_le c e (x_wd 2) r
        have hB1 := hB.rd hk8 hs h4 (hlle.2.2 (by omega))
        cases hl : (b_lit c e (x_wd 2) r).2 with
        | false =>
            refine pv_if_eq (pc := 124) (tgt := 139) dX11_readItem_124 (by decide) (fun _ => ?_) (fun q => absurd q (by decide))
            refine pv_iconst (pc := 139) (v := 0) dX11_readItem_139 (by decide) ?_
            refine pv_iret (pc := 140) dX11_readItem_140 rfl rfl ?_
            refine Or.inr ⟨_, ?_, rfl, hB.er hs (h6 hl)⟩
            unfold x_itm
            rw [if_neg hn0, if_neg hn1, if_pos hr]
            unfold x_one
            rw [if_neg (by rw [hl]; decide)]
        | true =>
            refine pv_if_eq (pc := 124) (tgt := 139) dX11_readItem_124 (by decide) (fun q => absurd q (by decide)) (fun _ => ?_)
            refine pv_aload_0 (pc := 127) dX11_readItem_127 ?_
            refine pv_aload_1 (pc := 128) dX11_readItem_128 ?_
            have hE : x_itm c e r J1 K1 = x_stt c e (b_lit c e (x_wd 2) r).1 J1 K1 := by
              unfold x_itm
              rw [if_neg hn0, if_neg hn1, if_pos hr]
              unfold x_one
              rw [if_pos hl]
            refine pv_callVq (pc := 129) dX11_readItem_129 mgX11_readStart lv_X11_461_11 (by decide) (sx_16 hT) (by omega) (c_X11_readStart hT0 hR0 hk8 hB1 (by omega)) rfl rfl (Nat.le_of_ble_eq_true rfl) (fun v t I L Rf hq => ?_)
            rcases hq with ⟨r1, J2, K2, eB, rfl, hb2⟩ | ⟨x, eB, rfl, he2⟩
            · skip
              refine pv_if_eq (pc := 132) (tgt := 139) dX11_readItem_132 (by decide) (fun q => absurd q (by decide)) (fun _ => ?_)
              refine pv_iconst (pc := 135) (v := 1) dX11_readItem_135 (by decide) ?_
              refine pv_goto (pc := 136) (tgt := 140) dX11_readItem_136 (by decide) ?_
              refine pv_iret (pc := 140) dX11_readItem_140 rfl rfl ?_
              exact Or.inl ⟨r1, J2, K2, by rw [← eB, hE], rfl, hb2⟩
            · skip
              refine pv_if_eq (pc := 132) (tgt := 139) dX11_readItem_132 (by decide) (fun _ => ?_) (fun q => absurd q (by decide))
              refine pv_iconst (pc := 139) (v := 0) dX11_readItem_139 (by decide) ?_
              refine pv_iret (pc := 140) dX11_readItem_140 rfl rfl ?_
              exact Or.inr ⟨x, by rw [← eB, hE], rfl, he2⟩
      · have hn2 := h2
        by_cases hre2 : r < e
        · skip
          refine pv_aload_1 (pc := 0) dX11_readItem_0 ?_
          refine pv_getI (pc := 1) dX11_readItem_1 fg_X11_439_8 rfl (by omega) (sx_sh hT hk8) ?_
          refine pv_topv2 (y := Int32.ofNat r) hB.2.2.2.1.2.2.2.1 ?_
          refine pv_istore_2 (pc := 4) dX11_readItem_4 (by decide) rfl ?_
          refine pv_aload_1 (pc := 5) dX11_readItem_5 ?_
          refine pv_iload_2 (pc := 6) dX11_readItem_6 ?_
          refine pv_callV1 (pc := 7) dX11_readItem_7 mgX8_asInt lv_X11_398_8 (by omega) (sx_sh hT hk8) (by omega) (c_asInt_at (v := c r) hT hR hk8 (by rw [hx.1, i_of (by omega)]; omega) (by rw [hx.1, i_of (by omega)]; omega) (by rw [hx.2.2.1 r (by omega)])) rfl rfl (by decide) ?_
          refine pv_lookup (pc := 10) (off := 131) (tgt := 141) dX11_readItem_10 (by decide) (sw_o (fun q => hn1 ⟨hre2, q⟩) (fun q => hn0 ⟨hre2, q⟩) (fun q => hn2 ⟨hre2, q⟩)) (by decide) ?_
          refine pv_aload_1 (pc := 141) dX11_readItem_141 ?_
          refine pv_iload_2 (pc := 142) dX11_readItem_142 ?_
          refine pv_iconst (pc := 143) (v := 0) dX11_readItem_143 (by decide) ?_
          refine pv_callV1 (pc := 144) dX11_readItem_144 mgX8_fits lv_X11_447_8 (by omega) (sx_sh hT hk8) (by omega) (c_X8_fits (b := false) hT hR hk8) rfl rfl (by decide) ?_
          refine pv_iret (pc := 147) dX11_readItem_147 rfl rfl ?_
          refine Or.inr ⟨r, ?_, rfl, hB.er (sF.rf.u 6 _ (by omega)) (by rw [if_neg (by decide), pv_u_eq, if_pos rfl])⟩
          unfold x_itm
          rw [if_neg hn0, if_neg hn1, if_neg hn2]
        · skip
          refine pv_aload_1 (pc := 0) dX11_readItem_0 ?_
          refine pv_getI (pc := 1) dX11_readItem_1 fg_X11_439_8 rfl (by omega) (sx_sh hT hk8) ?_
          refine pv_topv2 (y := Int32.ofNat r) hB.2.2.2.1.2.2.2.1 ?_
          refine pv_istore_2 (pc := 4) dX11_readItem_4 (by decide) rfl ?_
          refine pv_aload_1 (pc := 5) dX11_readItem_5 ?_
          refine pv_iload_2 (pc := 6) dX11_readItem_6 ?_
          refine pv_callV1 (pc := 7) dX11_readItem_7 mgX8_asInt lv_X11_398_8 (by omega) (sx_sh hT hk8) (by omega) (c_asInt_no hT hR hk8 (by rw [hx.1, i_of (by omega)]; omega) (by omega)) rfl rfl (by decide) ?_
          refine pv_lookup (pc := 10) (off := 131) (tgt := 141) dX11_readItem_10 (by decide) (by decide) (by decide) ?_
          refine pv_aload_1 (pc := 141) dX11_readItem_141 ?_
          refine pv_iload_2 (pc := 142) dX11_readItem_142 ?_
          refine pv_iconst (pc := 143) (v := 0) dX11_readItem_143 (by decide) ?_
          refine pv_callV1 (pc := 144) dX11_readItem_144 mgX8_fits lv_X11_447_8 (by omega) (sx_sh hT hk8) (by omega) (c_X8_fits (b := false) hT hR hk8) rfl rfl (by decide) ?_
          refine pv_iret (pc := 147) dX11_readItem_147 rfl rfl ?_
          refine Or.inr ⟨r, ?_, rfl, hB.er (sF.rf.u 6 _ (by omega)) (by rw [if_neg (by decide), pv_u_eq, if_pos rfl])⟩
          unfold x_itm
          rw [if_neg hn0, if_neg hn1, if_neg hn2]

