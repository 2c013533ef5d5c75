/-! the class: barn -/
def q_its (J : pv_I) (t0 : pv_T) (I0 : pv_I) (L0 : pv_L) (Rf0 : pv_R) (k e : Nat) (c : Nat → Int32) (B : BR) : pv_Q := fun v t1 I1 L1 R1 => (∃ n1 J2 K2 r1, B = .ok (n1, J2, K2) ∧ v = some (.int (Int32.ofNat n1)) ∧ tB J t0 I0 L0 Rf0 k e c J2 K2 t1 I1 L1 R1 r1) ∨ (∃ x, B = .error x ∧ v = some (.int (-1)) ∧ tE J t0 I0 L0 Rf0 k x t1 I1 L1 R1)

set_option maxRecDepth 100000 in
set_option maxHeartbeats 4000000 in
theorem c_X11_readItems {G : pv_G} {d : Nat} {J : pv_I} {t0 : pv_T} {I0 : pv_I} {L0 : pv_L} {Rf0 : pv_R} {k e : Nat} {c : Nat → Int32} {J1 : pv_I} {K1 : pv_L} {t : pv_T} {I : pv_I} {L : pv_L} {Rf : pv_R} (hF : fk_ok G) (hT0 : sh_ok t0) (hR0 : rf_ok Rf0) (hk8 : k < 8) (hb : tB J t0 I0 L0 Rf0 k e c J1 K1 t I L Rf 0) (hd : 24 ≤ d) : pv_Mt G mX11_readItems d 8 40 [.ref 16, .ref (45 + 2 * k)] t I L Rf (q_its J t0 I0 L0 Rf0 k e c (x_bl c e (e + 1) 0 1 J1 K1)) := by
  refine pv_mt mgX11_readItems.2.2.2.2.2 [.ref 16, .ref (45 + 2 * k), .retAddr 0] rfl (Nat.le_of_ble_eq_true rfl) ?_
  refine pv_iconst (pc := 0) (v := 1) dX11_readItems_0 (by decide) ?_
  refine pv_istore_2 (pc := 1) dX11_readItems_1 (by decide) rfl ?_
  exact l_its hF hT0 hR0 hk8 hb.2.2.2.1.2.1 hd (fun n1 J2 K2 t1 I1 L1 R1 r1 h1 h2 => Or.inl ⟨n1, J2, K2, r1, h1, rfl, h2⟩) (fun x t1 I1 L1 R1 h1 h2 => Or.inr ⟨x, h1, rfl, h2⟩) (e + 1) 8 0 1 J1 K1 t I L Rf (by omega) (by omega) (by omega) (by have := hb.2.2.2.2.2.2.1.1.1; omega) hb rfl

set_option maxRecDepth 100000 in
set_option maxHeartbeats 4000000 in
theorem c_X11_barn {G : pv_G} {d : Nat} {J : pv_I} {K : pv_L} {s : Int32} {t : pv_T} {I : pv_I} {L : pv_L} {Rf : pv_R} (hW : WF J K) (hX : RX J K t I L Rf) (hF : fk_ok G) (hd : 60 ≤ d) : pv_Mt G mX11_barn d 8 40 [.ref 16, .int s] t I L Rf (qX (S_barn J K s) I L) := by
  refine pv_mt mgX11_barn.2.2.2.2.2 [.ref 16, .int s, .retAddr 0, .retAddr 0, .retAddr 0] rfl (Nat.le_of_ble_eq_true rfl) ?_
  have hT := hX.1
  have hR := hX.2.1
  obtain ⟨-, -, ⟨xp, xq, xn, xst, xsp, xsd, xc⟩, xf, xs, xb, xi⟩ := id hX
  by_cases hs : s_sh s = true
  · have hin := s_sh_in hs
    have hs8 : s.toNatClampNeg < 8 := (pv_in_lt hin).2.2.1
    have hkd := x_kind hW hX hs8
    refine pv_aload_0 (pc := 0) dX11_barn_0 ?_
    refine pv_iload_1 (pc := 1) dX11_barn_1 ?_
    refine pv_callV1 (pc := 2) dX11_barn_2 mgX11_noRow lv_X11_78_11 (by decide) (sx_16 hT) (by omega) (c_X11_noRow hW hX (by omega)) rfl rfl (by decide) ?_
    refine pv_istore_2 (pc := 5) dX11_barn_5 (by decide) rfl ?_
    refine pv_aload_0 (pc := 6) dX11_barn_6 ?_
    refine pv_iload_1 (pc := 7) dX11_barn_7 ?_
    refine pv_callV1 (pc := 8) dX11_barn_8 mgX11_shelfAt lv_X11_66_11 (by decide) (sx_16 hT) (by omega) (c_X11_shelfAt1 hT hR hin) rfl rfl (by decide) ?_
    refine pv_astore_3 (pc := 11) dX11_barn_11 (by decide) rfl ?_
    refine pv_iload_2 (pc := 12) dX11_barn_12 ?_
    refine pv_if_ne (pc := 13) (tgt := 20) dX11_barn_13 (by decide) (fun h13 => ?_) (fun h13 => ?_)
    · refine pv_aload_0 (pc := 20) dX11_barn_20 ?_
      refine pv_iload_2 (pc := 21) dX11_barn_21 ?_
      refine pv_callV1 (pc := 22) dX11_barn_22 mgX11_refuse lv_X11_70_11 (by decide) (sx_16 hT) (by omega) (c_X11_refuse (k := (-(w_wants J s)).toNatClampNeg) hT hR rfl (w_wants_in J s)) rfl rfl (by decide) ?_
      refine pv_iret (pc := 25) dX11_barn_25 rfl rfl ?_
      have hw0 : ¬ w_wants J s = 0 := by
        intro q
        have f1 : ¬ -(w_wants J s) = 0 := by first | exact h13 | exact Classical.not_not.mp h13
        exact f1 (by rw [q]; decide)
      refine qX.ref hX (w_wants_n J s) ?_
      unfold S_barn; rw [if_neg hw0, x_neg2]
    · refine pv_aload_3 (pc := 16) dX11_barn_16 ?_
      refine pv_ifnonnull (pc := 17) (tgt := 26) dX11_barn_17 (by decide) ?_
      have hw0 : w_wants J s = 0 := by
        have f1 : -(w_wants J s) = 0 := by first | exact h13 | exact Classical.not_not.mp h13
        grind
      obtain ⟨k1, k2, k3, k4, k5, k6, k7⟩ : J 6 s.toNatClampNeg = 1 ∧ I (45 + 2 * s.toNatClampNeg) 1 = J 7 s.toNatClampNeg ∧ I (45 + 2 * s.toNatClampNeg) 2 = J 8 s.toNatClampNeg ∧ I (45 + 2 * s.toNatClampNeg) 3 = -1 ∧ ¬ J 7 s.toNatClampNeg = -1 ∧ (0 ≤ (J 8 s.toNatClampNeg).toInt ∧ (J 8 s.toNatClampNeg).toInt ≤ 160) ∧ ∀ j, j < 160 → L (46 + 2 * s.toNatClampNeg) j = K (1 + s.toNatClampNeg) j := by
        rcases hkd with ⟨k1, k2⟩ | h | ⟨k1, k2⟩
        · have e := (w_wants_k (J := J) hs).1 k1; rw [hw0] at e; exact absurd e (by decide)
        · exact h
        · have e := (w_wants_k (J := J) hs).2.2 k1; rw [hw0] at e; exact absurd e (by decide)
      have hxh := hX.2.2.1
      have hXb := hX
      obtain ⟨e, he⟩ : ∃ e, e = (J 8 s.toNatClampNeg).toNatClampNeg := ⟨_, rfl⟩
      have el := i_lit (J 8 s.toNatClampNeg)
      have e160 : e ≤ 160 := by omega
      have eof : J 8 s.toNatClampNeg = Int32.ofNat e := by rw [← Int32.toInt_inj, i_of (by omega)]; omega
      obtain ⟨Ib, hIb⟩ : ∃ z, z = I := ⟨_, rfl⟩
      obtain ⟨Lb, hLb⟩ : ∃ z, z = L := ⟨_, rfl⟩
      clear el
      refine pv_aload_0 (pc := 26) dX11_barn_26 ?_
      refine pv_getR (pc := 27) dX11_barn_27 fg_X11_38_11 rfl (by decide) (sx_16 hT) (rx_16_6 hR) ?_
      refine pv_aload_0 (pc := 30) dX11_barn_30 ?_
      refine pv_getR (pc := 31) dX11_barn_31 fg_X11_31_11 rfl (by decide) (sx_16 hT) (rx_16_4 hR) ?_
      refine pv_callVq (pc := 34) dX11_barn_34 mgX4_takeFrom lv_X11_169_4 (by decide) (sx_25 hT) (by omega) (c_tk_25_21 hT hR hxh (by omega)) rfl rfl (by decide) (fun v t I L Rf hq => ?_)
      obtain ⟨rfl, rfl, rfl, hf0, hx0⟩ := hq
      refine pv_aload_3 (pc := 37) dX11_barn_37 ?_
      refine pv_callV0 (pc := 38) dX11_barn_38 mgX8_open lv_X11_173_8 (by omega) (sx_sh hT hs8) (by omega) (c_X8_open hT hR hs8) rfl rfl (by decide) ?_
      refine pv_aload_0 (pc := 41) dX11_barn_41 ?_
      refine pv_aload_3 (pc := 42) dX11_barn_42 ?_
      have hXb : RX J K t Ib Lb Rf := by rw [hIb, hLb]; exact hXb
      have hB0 : tB J t Ib Lb Rf s.toNatClampNeg e (b_c K s) (pv_u J 0 4 (-1)) K t (pv_u (pv_u I (45 + 2 * s.toNatClampNeg) 4 0) (45 + 2 * s.toNatClampNeg) 6 (-1)) L Rf 0 := by
        refine ⟨pv_al.rf, fun a j q1 q2 q3 q4 => ?_, fun a j q1 q2 => ?_, ⟨?_, e160, fun j hj => ?_, ?_, Nat.zero_le _⟩, ?_, ?_, hW.f4 (-1), ?_⟩
        · rw [pv_u_o _ (by omega), pv_u_o _ (by omega), hIb]; exact hf0.1 a j q2 (by omega)
        · rw [hLb]; exact hf0.2 a j q2
        · rw [pv_u_o _ (by omega), pv_u_o _ (by omega), hf0.1 _ _ (by omega) (by omega), ← eof]; exact k3
        · rw [hf0.2 _ _ (by omega)]; exact congrArg (fun z => Int64.toInt32 z) (k7 j hj)
        · rw [pv_u_o _ (by omega), pv_u_eq, if_pos rfl]; rfl
        · rw [pv_u_o _ (by decide), pv_u_o _ (by decide), pv_u_o _ (by decide), pv_u_o _ (by decide), show pv_u J 0 4 (-1) 4 = J 4 from funext fun j => pv_u_o _ (by omega)]
          exact hx0.cg (fun j => by rw [pv_u_o _ (by omega), pv_u_o _ (by omega)]) (fun j => by rw [pv_u_o _ (by omega), pv_u_o _ (by omega)]) (fun _ => rfl)
        · have g := XF.cg hXb.2.2.2.1 (I1 := pv_u (pv_u I (45 + 2 * s.toNatClampNeg) 4 0) (45 + 2 * s.toNatClampNeg) 6 (-1)) (fun a j q => by rw [pv_u_o _ (by omega), pv_u_o _ (by omega), hIb]; exact hf0.1 a j (by omega) (by omega))
          intro i hi
          rw [pv_u_o _ (by decide)] at hi
          rw [pv_u_ne _ _ (by decide), pv_u_ne _ _ (by decide), pv_u_ne _ _ (by decide)]
          exact g i hi
        · rw [pv_u_o _ (by decide)]; exact Int.le_refl _
      refine pv_callV (bc := 0) (bs := 0) (d1 := d - 1) (pc := 43) dX11_barn_43 mgX11_readItems lv_X11_176_11 (by decide) (sx_16 hT) (by omega) (c_X11_readItems hF hT hR hs8 hB0 (by omega)) rfl rfl (Nat.le_of_ble_eq_true rfl) (fun v t1 I1 L1 R1 hq => ?_)
      have eB : b_barn (b_c K s) (J 8 s.toNatClampNeg).toNatClampNeg (pv_u J 0 4 (-1)) K = x_bl (b_c K s) e (e + 1) 0 1 (pv_u J 0 4 (-1)) K := by rw [← he, b_barn_x]
      rcases hq with ⟨n1, J2, K2, r1, hB, rfl, hb2⟩ | ⟨x, hB, rfl, he2⟩
      · have hT := hb2.1.sh hXb.1
        have hR := hb2.1.re hXb.1 hXb.2.1
        obtain ⟨fj, fk, hn1⟩ := x_bl_fr (hW.f4 (-1)) (Nat.zero_le _) hB
        have hn1i : ¬ Int32.ofNat n1 = -1 := i_n1 (by omega)
        refine pv_istore_4 (pc := 46) dX11_barn_46 (by decide) rfl ?_
        refine pv_aload_0 (pc := 48) dX11_barn_48 ?_
        refine pv_iload_4 (pc := 49) dX11_barn_49 ?_
        refine pv_iconst (pc := 51) (v := (-1)) dX11_barn_51 (by decide) ?_
        refine pv_icmp_ne (pc := 52) (tgt := 62) dX11_barn_52 (by decide) (fun h52 => ?_) (fun h52 => absurd h52 hn1i)
        refine pv_iconst (pc := 62) (v := (-1)) dX11_barn_62 (by decide) ?_
        refine pv_putI (pc := 63) dX11_barn_63 fl_X11_61_11 (fun q => by cases q) ⟨rfl, rfl, rfl⟩ (by decide) (sx_16 hT) ?_
        refine pv_iload_4 (pc := 66) dX11_barn_66 ?_
        refine pv_iconst (pc := 68) (v := (-1)) dX11_barn_68 (by decide) ?_
        refine pv_icmp_ne (pc := 69) (tgt := 79) dX11_barn_69 (by decide) (fun h69 => ?_) (fun h69 => absurd h69 hn1i)
        refine pv_aload_0 (pc := 79) dX11_barn_79 ?_
        refine pv_getR (pc := 80) dX11_barn_80 fg_X11_31_11 rfl (by decide) (sx_16 hT) (rx_16_4 hR) ?_
        refine pv_aload_0 (pc := 83) dX11_barn_83 ?_
        refine pv_getR (pc := 84) dX11_barn_84 fg_X11_38_11 rfl (by decide) (sx_16 hT) (rx_16_6 hR) ?_
        refine pv_callVq (pc := 87) dX11_barn_87 mgX4_takeFrom lv_X11_169_4 (by decide) (sx_21 hT) (by omega) (c_tk_21_25 hT hR (hb2.2.2.2.2.1.cg (fun j => pv_u_o _ (by omega)) (fun j => pv_u_o _ (by omega)) (fun _ => rfl)) (by omega)) rfl rfl (by decide) (fun v t I L Rf hq => ?_)
        obtain ⟨rfl, rfl, rfl, hf7, hx7⟩ := hq
        refine pv_iload_4 (pc := 90) dX11_barn_90 ?_
        refine pv_iret (pc := 92) dX11_barn_92 rfl rfl ?_
        have hRX := hXb.barn hs8 hb2 fj fk hf7 hx7
        have e1 : S_barn J K s = (.int (Int32.ofNat n1), J2, K2) := by unfold S_barn; rw [if_pos hw0, eB, hB]
        rw [e1]
        exact ⟨rfl, hRX, kM.of (fun a j q1 q2 => by rw [hf7.1 a j (by omega) (by omega), pv_u_o _ (by omega), hb2.2.1 a j (by have := hXb.1.1; omega) (by omega) (by omega) (by omega), hIb]) (fun a j q1 q2 => by rw [hf7.2 a j (by omega), hb2.2.2.1 a j (by have := hXb.1.1; omega) (by omega), hLb])⟩
      · have hT := he2.1.sh hXb.1
        have hR := he2.1.re hXb.1 hXb.2.1
        refine pv_istore_4 (pc := 46) dX11_barn_46 (by decide) rfl ?_
        refine pv_aload_0 (pc := 48) dX11_barn_48 ?_
        refine pv_iload_4 (pc := 49) dX11_barn_49 ?_
        refine pv_iconst (pc := 51) (v := (-1)) dX11_barn_51 (by decide) ?_
        refine pv_icmp_ne (pc := 52) (tgt := 62) dX11_barn_52 (by decide) (fun q => absurd q (by decide)) (fun _ => ?_)
        refine pv_aload_3 (pc := 55) dX11_barn_55 ?_
        refine pv_getI (pc := 56) dX11_barn_56 fg_X11_180_8 rfl (by omega) (sx_sh hT hs8) ?_
        refine pv_goto (pc := 59) (tgt := 63) dX11_barn_59 (by decide) ?_
        refine pv_putI (pc := 63) dX11_barn_63 fl_X11_61_11 (fun q => by cases q) ⟨rfl, rfl, rfl⟩ (by decide) (sx_16 hT) ?_
        refine pv_iload_4 (pc := 66) dX11_barn_66 ?_
        refine pv_iconst (pc := 68) (v := (-1)) dX11_barn_68 (by decide) ?_
        refine pv_icmp_ne (pc := 69) (tgt := 79) dX11_barn_69 (by decide) (fun q => absurd q (by decide)) (fun _ => ?_)
        refine pv_aload_0 (pc := 72) dX11_barn_72 ?_
        refine pv_bipush (pc := 73) (v := 6) dX11_barn_73 (by decide) ?_
        refine pv_callV1 (pc := 75) dX11_barn_75 mgX11_refuse lv_X11_70_11 (by decide) (sx_16 hT) (by omega) (c_X11_refuse (k := 6) hT hR (by decide) (by unfold vp_in; decide)) rfl rfl (by decide) ?_
        refine pv_iret (pc := 78) dX11_barn_78 rfl rfl ?_
        have e1 : S_barn J K s = S_ref (pv_u J 0 4 (Int32.ofNat x)) K 6 (.int (-6)) := by unfold S_barn; rw [if_pos hw0, eB, hB]
        rw [e1, he2.2.2.2]
        have hRX := hXb.fault hs8 he2 (Int32.ofNat x)
        exact ⟨rfl, hRX.ref (by decide), (kM.of (fun a j q1 q2 => by rw [pv_u_o _ (by omega), he2.2.1 a j (by have := hXb.1.1; omega) (by omega) (by omega) (by omega), hIb]) (fun a j q1 q2 => by rw [he2.2.2.1 a j (by have := hXb.1.1; omega) (by omega), hLb])).tr kM.ref⟩
  · have hs0 : s_sh s = false := by simpa using hs
    refine pv_aload_0 (pc := 0) dX11_barn_0 ?_
    refine pv_iload_1 (pc := 1) dX11_barn_1 ?_
    refine pv_callV1 (pc := 2) dX11_barn_2 mgX11_noRow lv_X11_78_11 (by decide) (sx_16 hT) (by omega) (c_X11_noRow hW hX (by omega)) rfl rfl (by decide) ?_
    refine pv_istore_2 (pc := 5) dX11_barn_5 (by decide) rfl ?_
    refine pv_aload_0 (pc := 6) dX11_barn_6 ?_
    refine pv_iload_1 (pc := 7) dX11_barn_7 ?_
    refine pv_callV1 (pc := 8) dX11_barn_8 mgX11_shelfAt lv_X11_66_11 (by decide) (sx_16 hT) (by omega) (c_X11_shelfAt0 hT hR hs0) rfl rfl (by decide) ?_
    refine pv_astoreN_3 (pc := 11) dX11_barn_11 (by decide) rfl ?_
    refine pv_iload_2 (pc := 12) dX11_barn_12 ?_
    refine pv_if_ne (pc := 13) (tgt := 20) dX11_barn_13 (by decide) (fun h13 => ?_) (fun h13 => absurd h13 (by rw [w_wants_n0 hs0]; decide))
    refine pv_aload_0 (pc := 20) dX11_barn_20 ?_
    refine pv_iload_2 (pc := 21) dX11_barn_21 ?_
    refine pv_callV1 (pc := 22) dX11_barn_22 mgX11_refuse lv_X11_70_11 (by decide) (sx_16 hT) (by omega) (c_X11_refuse (k := (-(w_wants J s)).toNatClampNeg) hT hR rfl (w_wants_in J s)) rfl rfl (by decide) ?_
    refine pv_iret (pc := 25) dX11_barn_25 rfl rfl ?_
    have e : w_wants J s = -1 := w_wants_n0 hs0
    refine qX.ref hX (by rw [e]; decide) ?_
    unfold S_barn; rw [if_neg (by rw [e]; decide), x_neg2]

