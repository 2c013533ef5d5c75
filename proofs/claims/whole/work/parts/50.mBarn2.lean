/-! a barn is read -/
def b_run (c : Nat → Int32) (e : Nat) : Nat → Nat → Nat → pv_I → pv_L → BR
  | 0, r, _, _, _ => .error r
  | m + 1, r, n, J, K => if r < e then (if c r = 59 then (match b_item c e (r + 1) J K with
      | .error x => .error x
      | .ok y => b_run c e m y.1 (n + 1) y.2.1 y.2.2) else .error r) else .ok (n, J, K)
def b_barn (c : Nat → Int32) (e : Nat) (J : pv_I) (K : pv_L) : BR := match b_item c e 0 J K with
  | .error x => .error x
  | .ok y => b_run c e (e + 1) y.1 1 y.2.1 y.2.2
def b_c (K : pv_L) (s : Int32) : Nat → Int32 := fun i => (K (1 + s.toNatClampNeg) i).toInt32
def S_barn (J : pv_I) (K : pv_L) (s : Int32) : SR := if w_wants J s = 0 then (match b_barn (b_c K s) (J 8 s.toNatClampNeg).toNatClampNeg (pv_u J 0 4 (-1)) K with
    | .error x => S_ref (pv_u J 0 4 (Int32.ofNat x)) K 6 (.int (-6))
    | .ok y => (.int (Int32.ofNat y.1), y.2.1, y.2.2))
  else S_ref J K (-(w_wants J s)).toNatClampNeg (.int (w_wants J s))
theorem bI.kX {I I1 : pv_I} {L L1 : pv_L} (h : bI I I1) (g : bL L L1) : kX I L I1 L1 := fun a ha => ⟨funext fun j => h a j (by omega) (by omega) (by omega) (by omega) (by omega) (by omega) (by omega), funext fun j => g a j (by omega)⟩
theorem m_al0_k (I : pv_I) (L : pv_L) : kS I L (m_al0 I 76) L := ⟨fun j _ => by rw [m_al0_ne I (by decide)], rfl, rfl, fun a ha => m_al0_ne I (by omega), fun _ _ => rfl⟩
theorem m_al1_k {I : pv_I} {L : pv_L} {p q : Int64} : kX I L (m_al1 I 76) (m_PQ L p q) := fun a ha => ⟨m_al6_ne I (by omega), by unfold m_PQ; rw [pv_u_ne _ _ (by omega), pv_u_ne _ _ (by omega)]⟩

set_option maxRecDepth 100000 in
set_option maxHeartbeats 4000000 in
theorem l_barn {G : pv_G} {d : Nat} {Q : pv_Q} {c : Nat → Int32} {e : Nat} {s s0 z2 : Int32} {B : BR} {t : pv_T} {I0 : pv_I} {L0 : pv_L} {Rf : pv_R} (hT : sh_ok t) (hR : rf_ok Rf) (hd : 9 ≤ d) (hyes : ∀ n1 J1 K1 I1 L1, B = .ok (n1, J1, K1) → RM J1 K1 I1 L1 → bI I0 I1 → bL L0 L1 → Q (some (.int (Int32.ofNat n1))) t I1 L1 Rf) (hno : ∀ x I1 L1, B = .error x → I1 61 27 = Int32.ofNat x → bI I0 I1 → bL L0 L1 → ∀ l3 l4, pv_V G mX12_barn d 0 0 Q 0 0 144 [.ref 61, .int s0, .int z2, l3, l4] [] t I1 L1 Rf) : ∀ (m : Nat) (r n : Nat) (J : pv_I) (K : pv_L) (I1 : pv_I) (L1 : pv_L), WF J K → RM J K I1 L1 → b_tx c e s I1 L1 → I1 61 24 = Int32.ofNat r → r ≤ e → e < m + r → bI I0 I1 → bL L0 L1 → B = b_run c e m r n J K →
    pv_V G mX12_barn d 0 0 Q 0 0 66 [.ref 61, .int s0, .int z2, .int (Int32.ofNat n), .int 1] [] t I1 L1 Rf := by
  intro m
  induction m with
  | zero =>
    intro r n J K I1 L1 hW hM hx h24 hr hm
    exfalso; omega
  | succ m ih =>
    intro r n J K I1 L1 hW hM hx h24 hr hm hI hL hB
    have he := hx.2.1
    refine pv_iload_4 (pc := 66) dX12_barn_66 ?_
    refine pv_if_eq (pc := 68) (tgt := 137) dX12_barn_68 (by decide) (fun q => absurd q (by decide)) (fun _ => ?_)
    refine pv_aload_0 (pc := 71) dX12_barn_71 ?_
    refine pv_getI (pc := 72) dX12_barn_72 fg_X12_169_12 rfl (by decide) (sx_61 hT) ?_
    refine pv_aload_0 (pc := 75) dX12_barn_75 ?_
    refine pv_getI (pc := 76) dX12_barn_76 fg_X12_172_12 rfl (by decide) (sx_61 hT) ?_
    refine pv_icmp_ge (pc := 79) (tgt := 137) dX12_barn_79 (by decide) (fun h79 => ?_) (fun h79 => ?_)
    · refine pv_iload_4 (pc := 137) dX12_barn_137 ?_
      refine pv_if_eq (pc := 139) (tgt := 144) dX12_barn_139 (by decide) (fun q => absurd q (by decide)) (fun _ => ?_)
      refine pv_iload_3 (pc := 142) dX12_barn_142 ?_
      refine pv_iret (pc := 143) dX12_barn_143 rfl rfl ?_
      exact hyes n J K _ _ (by rw [hB, b_run, if_neg (by have g := h79; rw [hx.2.2.2.1, h24, i_ltn (by omega) (by omega)] at g; omega)]) hM hI hL
    · refine pv_aload_0 (pc := 82) dX12_barn_82 ?_
      refine pv_getR (pc := 83) dX12_barn_83 fg_X12_48_12 rfl (by decide) (sx_61 hT) (rx_61_16 hR) ?_
      refine pv_aload_0 (pc := 86) dX12_barn_86 ?_
      refine pv_getI (pc := 87) dX12_barn_87 fg_X12_175_12 rfl (by decide) (sx_61 hT) ?_
      have hre : r < e := (by have g := h79; rw [hx.2.2.2.1, h24, i_ltn (by omega) (by omega)] at g; first | exact g | exact Classical.not_not.mp g)
      have hc := b_cell hx (r := r) (by omega)
      refine pv_aload_0 (pc := 90) dX12_barn_90 ?_
      refine pv_getI (pc := 91) dX12_barn_91 fg_X12_169_12 rfl (by decide) (sx_61 hT) ?_
      refine pv_iadd (pc := 94) dX12_barn_94 ?_
      rw [hx.2.2.1, h24]
      refine pv_laloadj (pc := 95) dX12_barn_95 (by decide) (sx_71 hT) rfl hc.1 ?_
      refine pv_l2i (pc := 96) dX12_barn_96 ?_
      refine pv_topv2 (y := c r) hc.2 ?_
      refine pv_bipush (pc := 97) (v := 59) dX12_barn_97 (by decide) ?_
      refine pv_icmp_eq (pc := 99) (tgt := 115) dX12_barn_99 (by decide) (fun h99 => ?_) (fun h99 => ?_)
      · refine pv_aload_0 (pc := 115) dX12_barn_115 ?_
        refine pv_dup (pc := 116) dX12_barn_116 rfl ?_
        refine pv_getI (pc := 117) dX12_barn_117 fg_X12_169_12 rfl (by decide) (sx_61 hT) ?_
        refine pv_iconst (pc := 120) (v := 1) dX12_barn_120 (by decide) ?_
        refine pv_iadd (pc := 121) dX12_barn_121 ?_
        refine pv_putI (pc := 122) dX12_barn_122 fl_X12_169_12 (fun q => by cases q) ⟨rfl, rfl, rfl⟩ (by decide) (sx_61 hT) ?_
        refine pv_iinc_3 (pc := 125) (v := _ + 1) dX12_barn_125 rfl (by decide) rfl ?_
        have hsc : c r = 59 := (by first | exact h99 | exact Classical.not_not.mp h99)
        have hx2 : b_tx c e s (pv_u I1 61 24 (I1 61 24 + 1)) L1 := (bN.rf.u 24 _ (by omega)).tx hx
        have hM2 : RM J K (pv_u I1 61 24 (I1 61 24 + 1)) L1 := hM.scr (kS.rf.uI 61 24 _ (by decide))
        have h24b : pv_u I1 61 24 (I1 61 24 + 1) 61 24 = Int32.ofNat (r + 1) := (show I1 61 24 + 1 = _ by rw [h24, i_inc])
        refine pv_aload_0 (pc := 128) dX12_barn_128 ?_
        refine pv_callVq (pc := 129) dX12_barn_129 mgX12_item lv_X12_223_12 (by decide) (sx_61 hT) (by omega) (c_X12_item hT hR hW hM2 hx2 h24b (by omega) (by omega)) rfl rfl (by decide) (fun v t I L Rf hq => ?_)
        obtain ⟨rfl, rfl, hI3, hL3, ho⟩ := hq
        rcases ho with ⟨r2, J2, K2, hB2, rfl, hM3, h24c⟩ | ⟨x, hB2, rfl, h27⟩
        · have hok := b_item_ok hW (by omega) hB2
          refine pv_istore_4 (pc := 132) dX12_barn_132 (by decide) rfl ?_
          refine pv_goto (pc := 134) (tgt := 66) dX12_barn_134 (by decide) ?_
          rw [i_inc]
          refine ih r2 (n + 1) J2 K2 _ _ hok.1 hM3 (bx_tx hI3 hL3 hx2) h24c hok.2.2.1 (by omega) ((hI.u 61 24 _ (by omega)).tr hI3) (hL.tr hL3) ?_
          rw [hB, b_run, if_pos hre, if_pos hsc, hB2]
        · skip
          refine pv_istore_4 (pc := 132) dX12_barn_132 (by decide) rfl ?_
          refine pv_goto (pc := 134) (tgt := 66) dX12_barn_134 (by decide) ?_
          refine pv_iload_4 (pc := 66) dX12_barn_66 ?_
          refine pv_if_eq (pc := 68) (tgt := 137) dX12_barn_68 (by decide) (fun _ => ?_) (fun q => absurd q (by decide))
          refine pv_iload_4 (pc := 137) dX12_barn_137 ?_
          refine pv_if_eq (pc := 139) (tgt := 144) dX12_barn_139 (by decide) (fun _ => ?_) (fun q => absurd q (by decide))
          exact hno x _ _ (by rw [hB, b_run, if_pos hre, if_pos hsc, hB2]) h27 ((hI.u 61 24 _ (by omega)).tr hI3) (hL.tr hL3) _ _
      · refine pv_aload_0 (pc := 102) dX12_barn_102 ?_
        refine pv_aload_0 (pc := 103) dX12_barn_103 ?_
        refine pv_getI (pc := 104) dX12_barn_104 fg_X12_169_12 rfl (by decide) (sx_61 hT) ?_
        refine pv_callV1 (pc := 107) dX12_barn_107 mgX12_wrong lv_X12_185_12 (by decide) (sx_61 hT) (by omega) (c_X12_wrong hT) rfl rfl (by decide) ?_
        refine pv_istore_4 (pc := 110) dX12_barn_110 (by decide) rfl ?_
        refine pv_goto (pc := 112) (tgt := 66) dX12_barn_112 (by decide) ?_
        refine pv_iload_4 (pc := 66) dX12_barn_66 ?_
        refine pv_if_eq (pc := 68) (tgt := 137) dX12_barn_68 (by decide) (fun _ => ?_) (fun q => absurd q (by decide))
        refine pv_iload_4 (pc := 137) dX12_barn_137 ?_
        refine pv_if_eq (pc := 139) (tgt := 144) dX12_barn_139 (by decide) (fun _ => ?_) (fun q => absurd q (by decide))
        exact hno r _ _ (by rw [hB, b_run, if_pos (by have g := h79; rw [hx.2.2.2.1, h24, i_ltn (by omega) (by omega)] at g; first | exact g | exact Classical.not_not.mp g), if_neg (fun q => h99 (by first | exact q | exact not_not_intro q))]) h24 (hI.u 61 27 _ (by omega)) hL _ _

set_option maxRecDepth 100000 in
set_option maxHeartbeats 4000000 in
theorem c_X12_barn {G : pv_G} {d : Nat} {J : pv_I} {K : pv_L} {s : Int32} {t : pv_T} {I : pv_I} {L : pv_L} {Rf : pv_R} (hT : sh_ok t) (hR : rf_ok Rf) (hW : WF J K) (hM : RM J K I L) (hwd : b_wok I) (hd : 10 ≤ d) : pv_Mt G mX12_barn d 0 0 [.ref 61, .int s] t I L Rf (qM (S_barn J K s) t I L Rf) := by
  refine pv_mt mgX12_barn.2.2.2.2.2 [.ref 61, .int s, .retAddr 0, .retAddr 0, .retAddr 0] rfl (Nat.le_of_ble_eq_true rfl) ?_
  obtain ⟨⟨m0, m1, m2, m3, m4, m5, m6, m7, m8⟩, mf, mst, mh, mr, mt, mc, mi⟩ := id hM
  refine pv_aload_0 (pc := 0) dX12_barn_0 ?_
  refine pv_iload_1 (pc := 1) dX12_barn_1 ?_
  refine pv_callV1 (pc := 2) dX12_barn_2 mgX12_wants lv_X12_128_12 (by decide) (sx_61 hT) (by omega) (c_X12_wants hT hR (by omega)) rfl rfl (by decide) ?_
  rw [hM.wants]
  refine pv_istore_2 (pc := 5) dX12_barn_5 (by decide) rfl ?_
  refine pv_iload_2 (pc := 6) dX12_barn_6 ?_
  refine pv_if_eq (pc := 7) (tgt := 16) dX12_barn_7 (by decide) (fun h7 => ?_) (fun h7 => ?_)
  · have hs : vp_in s 8 := (w_wants_0 h7).1
    have hs8 : s.toNatClampNeg < 8 := (pv_in_lt hs).2.2.1
    have hwn := w_wants_0 h7
    have w1 : J 6 s.toNatClampNeg = 1 := (hW.2.2.2.1 _ hs8).1.elim (fun r => absurd r hwn.2.2) (fun r => r.elim id (fun r => absurd r hwn.2.1))
    have w2 := (hW.2.2.2.1 _ hs8).2.1 w1
    have h69 : I 69 s.toNatClampNeg = J 8 s.toNatClampNeg := (mh _ hs8).2.2.1
    have hel := i_lit (J 8 s.toNatClampNeg)
    refine pv_aload_0 (pc := 16) dX12_barn_16 ?_
    refine pv_aload_0 (pc := 17) dX12_barn_17 ?_
    refine pv_getR (pc := 18) dX12_barn_18 fg_X12_64_12 rfl (by decide) (sx_61 hT) (rx_61_28 hR) ?_
    refine pv_aload_0 (pc := 21) dX12_barn_21 ?_
    refine pv_getR (pc := 22) dX12_barn_22 fg_X12_70_12 rfl (by decide) (sx_61 hT) (rx_61_30 hR) ?_
    refine pv_iconst (pc := 25) (v := 0) dX12_barn_25 (by decide) ?_
    refine pv_callV0 (pc := 26) dX12_barn_26 mgX12_all lv_X12_219_12 (by decide) (sx_61 hT) (by omega) (c_X12_all0 (b := 76) (l := 78) hT hR (sx_76 hT) (sx_78 hT) (by decide) (by decide) (by omega)) rfl rfl (by decide) ?_
    refine pv_aload_0 (pc := 29) dX12_barn_29 ?_
    refine pv_sipush (pc := 30) (v := 160) dX12_barn_30 (by decide) ?_
    refine pv_iload_1 (pc := 33) dX12_barn_33 ?_
    refine pv_imul (pc := 34) dX12_barn_34 ?_
    refine pv_putI (pc := 35) dX12_barn_35 fl_X12_175_12 (fun q => by cases q) ⟨rfl, rfl, rfl⟩ (by decide) (sx_61 hT) ?_
    refine pv_aload_0 (pc := 38) dX12_barn_38 ?_
    refine pv_iconst (pc := 39) (v := 0) dX12_barn_39 (by decide) ?_
    refine pv_putI (pc := 40) dX12_barn_40 fl_X12_169_12 (fun q => by cases q) ⟨rfl, rfl, rfl⟩ (by decide) (sx_61 hT) ?_
    refine pv_aload_0 (pc := 43) dX12_barn_43 ?_
    refine pv_aload_0 (pc := 44) dX12_barn_44 ?_
    refine pv_getR (pc := 45) dX12_barn_45 fg_X12_42_12 rfl (by decide) (sx_61 hT) (rx_61_14 hR) ?_
    refine pv_iload_1 (pc := 48) dX12_barn_48 ?_
    refine pv_ialoadj (pc := 49) dX12_barn_49 (sx_69 hT) rfl hs ?_
    refine pv_putI (pc := 50) dX12_barn_50 fl_X12_172_12 (fun q => by cases q) ⟨rfl, rfl, rfl⟩ (by decide) (sx_61 hT) ?_
    refine pv_aload_0 (pc := 53) dX12_barn_53 ?_
    refine pv_iconst (pc := 54) (v := (-1)) dX12_barn_54 (by decide) ?_
    refine pv_putI (pc := 55) dX12_barn_55 fl_X12_13_12 (fun q => by cases q) ⟨rfl, rfl, rfl⟩ (by decide) (sx_61 hT) ?_
    have hk0 : kS I L (pv_u (pv_u (pv_u (m_al0 I 76) 61 23 (160 * s)) 61 24 0) 61 25 (m_al0 I 76 69 s.toNatClampNeg)) (pv_u (pv_u L 78 0 (L 61 5)) 78 1 (L 61 6)) := (((((m_al0_k I L).uI 61 23 _ (by decide)).uI 61 24 _ (by decide)).uI 61 25 _ (by decide)).uL 78 0 _ (by decide)).uL 78 1 _ (by decide)
    have hM0 := (hM.scr hk0).f4 (-1)
    have hW0 := hW.f4 (-1)
    have ea := m_al0_at I (b := 76) (by decide)
    have ne : ∀ x, x ≠ 76 → m_al0 I 76 x = I x := fun x hx => m_al0_ne I hx
    have hx0 : b_tx (b_c K s) (J 8 s.toNatClampNeg).toNatClampNeg s (pv_u (pv_u (pv_u (pv_u (m_al0 I 76) 61 23 (160 * s)) 61 24 0) 61 25 (m_al0 I 76 69 s.toNatClampNeg)) 61 4 (-1)) (pv_u (pv_u L 78 0 (L 61 5)) 78 1 (L 61 6)) := ⟨hs, by omega, rfl, (by
      show m_al0 I 76 69 s.toNatClampNeg = _
      rw [ne 69 (by decide), h69, ← Int32.toInt_inj, i_of (by omega)]; omega), fun j hj => (by
      show (L 71 _).toInt32 = _
      exact congrArg Int64.toInt32 (mc _ hs8 j hj)), fun j x hjx => (by
      show m_al0 I 76 74 j = x
      rw [ne 74 (by decide)]; exact hwd j x hjx)⟩
    have h240 : (pv_u (pv_u (pv_u (pv_u (m_al0 I 76) 61 23 (160 * s)) 61 24 0) 61 25 (m_al0 I 76 69 s.toNatClampNeg)) 61 4 (-1)) 61 24 = Int32.ofNat 0 := rfl
    have hkx : kX I L (pv_u (pv_u (pv_u (pv_u (m_al0 I 76) 61 23 (160 * s)) 61 24 0) 61 25 (m_al0 I 76 69 s.toNatClampNeg)) 61 4 (-1)) (pv_u (pv_u L 78 0 (L 61 5)) 78 1 (L 61 6)) := hk0.kX.uI 61 4 _ (by decide)
    have hsv : (∀ i, i < 8 → (pv_u (pv_u (pv_u (pv_u (m_al0 I 76) 61 23 (160 * s)) 61 24 0) 61 25 (m_al0 I 76 69 s.toNatClampNeg)) 61 4 (-1)) 76 i = m_al0 I 76 63 i ∧ (pv_u (pv_u (pv_u (pv_u (m_al0 I 76) 61 23 (160 * s)) 61 24 0) 61 25 (m_al0 I 76 69 s.toNatClampNeg)) 61 4 (-1)) 76 (8 + i) = m_al0 I 76 64 i ∧ (pv_u (pv_u (pv_u (pv_u (m_al0 I 76) 61 23 (160 * s)) 61 24 0) 61 25 (m_al0 I 76 69 s.toNatClampNeg)) 61 4 (-1)) 76 (16 + i) = m_al0 I 76 65 i) ∧ (∀ c, c < 4 → (pv_u (pv_u (pv_u (pv_u (m_al0 I 76) 61 23 (160 * s)) 61 24 0) 61 25 (m_al0 I 76 69 s.toNatClampNeg)) 61 4 (-1)) 76 (24 + c) = m_al0 I 76 66 c) ∧ m_al0 I 76 76 28 = m_al0 I 76 61 0 ∧ m_al0 I 76 76 29 = m_al0 I 76 61 1 ∧ m_al0 I 76 76 30 = m_al0 I 76 61 2 ∧ m_al0 I 76 76 31 = m_al0 I 76 61 3 := by
      rw [ne 63 (by decide), ne 64 (by decide), ne 65 (by decide), ne 66 (by decide), ne 61 (by decide)]
      exact ea
    have hB0 : b_barn (b_c K s) (J 8 s.toNatClampNeg).toNatClampNeg (pv_u J 0 4 (-1)) K = b_barn (b_c K s) (J 8 s.toNatClampNeg).toNatClampNeg (pv_u J 0 4 (-1)) K := rfl
    have hno : ∀ x I1 L1, b_barn (b_c K s) (J 8 s.toNatClampNeg).toNatClampNeg (pv_u J 0 4 (-1)) K = .error x → I1 61 27 = Int32.ofNat x → bI (pv_u (pv_u (pv_u (pv_u (m_al0 I 76) 61 23 (160 * s)) 61 24 0) 61 25 (m_al0 I 76 69 s.toNatClampNeg)) 61 4 (-1)) I1 → bL (pv_u (pv_u L 78 0 (L 61 5)) 78 1 (L 61 6)) L1 → ∀ l3 l4, pv_V G mX12_barn d 0 0 (qM (S_barn J K s) t I L Rf) 0 0 144 [.ref 61, .int s, .int (w_wants J s), l3, l4] [] t I1 L1 Rf := by
      intro x I1 L1 hBx h27 hIb hLb l3 l4
      refine pv_aload_0 (pc := 144) dX12_barn_144 ?_
      refine pv_aload_0 (pc := 145) dX12_barn_145 ?_
      refine pv_getR (pc := 146) dX12_barn_146 fg_X12_64_12 rfl (by decide) (sx_61 hT) (rx_61_28 hR) ?_
      refine pv_aload_0 (pc := 149) dX12_barn_149 ?_
      refine pv_getR (pc := 150) dX12_barn_150 fg_X12_70_12 rfl (by decide) (sx_61 hT) (rx_61_30 hR) ?_
      refine pv_iconst (pc := 153) (v := 1) dX12_barn_153 (by decide) ?_
      refine pv_callV0 (pc := 154) dX12_barn_154 mgX12_all lv_X12_219_12 (by decide) (sx_61 hT) (by omega) (c_X12_all1 (b := 76) (l := 78) hT hR (sx_76 hT) (sx_78 hT) (by decide) (by decide) (by omega)) rfl rfl (by decide) ?_
      refine pv_aload_0 (pc := 157) dX12_barn_157 ?_
      refine pv_aload_0 (pc := 158) dX12_barn_158 ?_
      refine pv_getI (pc := 159) dX12_barn_159 fg_X12_166_12 rfl (by decide) (sx_61 hT) ?_
      refine pv_putI (pc := 162) dX12_barn_162 fl_X12_13_12 (fun q => by cases q) ⟨rfl, rfl, rfl⟩ (by decide) (sx_61 hT) ?_
      refine pv_aload_0 (pc := 165) dX12_barn_165 ?_
      refine pv_bipush (pc := 166) (v := (-6)) dX12_barn_166 (by decide) ?_
      refine pv_callV1 (pc := 168) dX12_barn_168 mgX12_no lv_X12_115_12 (by decide) (sx_61 hT) (by omega) (c_X12_no (k := 6) hT hR (by decide) (by unfold vp_in; decide)) rfl rfl (by decide) ?_
      refine pv_iret (pc := 171) dX12_barn_171 rfl rfl ?_
      have e : S_barn J K s = S_ref (pv_u J 0 4 (Int32.ofNat x)) K 6 (.int (-6)) := by unfold S_barn; rw [if_pos h7, hBx]
      rw [e]
      have hb := RM.back hW0 hM0 hsv ⟨rfl, rfl⟩ hIb hLb
      have h27b : m_al1 I1 76 61 27 = Int32.ofNat x := (m_al6_61 I1 (by decide)).trans h27
      have hb2 := hb.f4 (m_al1 I1 76 61 27)
      rw [pv_u_u] at hb2
      have hb3 : RM (pv_u J 0 4 (Int32.ofNat x)) K (pv_u (m_al1 I1 76) 61 4 (m_al1 I1 76 61 27)) (m_PQ L1 (L1 78 0) (L1 78 1)) := by rw [h27b] at hb2 ⊢; exact hb2
      exact ⟨rfl, rfl, rfl, hb3.ref (by decide), ((((hkx.tr (hIb.kX hLb)).tr m_al1_k).uI 61 4 _ (by decide))).tr kX.ref⟩
    have hyes : ∀ n1 J1 K1 I1 L1, b_barn (b_c K s) (J 8 s.toNatClampNeg).toNatClampNeg (pv_u J 0 4 (-1)) K = .ok (n1, J1, K1) → RM J1 K1 I1 L1 → bI (pv_u (pv_u (pv_u (pv_u (m_al0 I 76) 61 23 (160 * s)) 61 24 0) 61 25 (m_al0 I 76 69 s.toNatClampNeg)) 61 4 (-1)) I1 → bL (pv_u (pv_u L 78 0 (L 61 5)) 78 1 (L 61 6)) L1 → qM (S_barn J K s) t I L Rf (some (.int (Int32.ofNat n1))) t I1 L1 Rf := by
      intro n1 J1 K1 I1 L1 hBx hM1 hIb hLb
      have e : S_barn J K s = (.int (Int32.ofNat n1), J1, K1) := by unfold S_barn; rw [if_pos h7, hBx]
      rw [e]
      exact ⟨rfl, rfl, rfl, hM1, hkx.tr (hIb.kX hLb)⟩
    refine pv_iconst (pc := 58) (v := 1) dX12_barn_58 (by decide) ?_
    refine pv_istore_3 (pc := 59) dX12_barn_59 (by decide) rfl ?_
    refine pv_aload_0 (pc := 60) dX12_barn_60 ?_
    refine pv_callVq (pc := 61) dX12_barn_61 mgX12_item lv_X12_223_12 (by decide) (sx_61 hT) (by omega) (c_X12_item hT hR hW0 hM0 hx0 h240 (Nat.zero_le _) (by omega)) rfl rfl (by decide) (fun v t I L Rf hq => ?_)
    obtain ⟨rfl, rfl, hI3, hL3, ho⟩ := hq
    rcases ho with ⟨r2, J2, K2, hB2, rfl, hM3, h24c⟩ | ⟨x, hB2, rfl, h27⟩
    · have hok := b_item_ok hW0 (Nat.zero_le _) hB2
      refine pv_istore_4 (pc := 64) dX12_barn_64 (by decide) rfl ?_
      exact l_barn hT hR (by omega) hyes hno ((J 8 s.toNatClampNeg).toNatClampNeg + 1) r2 1 J2 K2 _ _ hok.1 hM3 (bx_tx hI3 hL3 hx0) h24c hok.2.2.1 (by omega) hI3 hL3 (by rw [b_barn, hB2])
    · skip
      refine pv_istore_4 (pc := 64) dX12_barn_64 (by decide) rfl ?_
      refine pv_iload_4 (pc := 66) dX12_barn_66 ?_
      refine pv_if_eq (pc := 68) (tgt := 137) dX12_barn_68 (by decide) (fun _ => ?_) (fun q => absurd q (by decide))
      refine pv_iload_4 (pc := 137) dX12_barn_137 ?_
      refine pv_if_eq (pc := 139) (tgt := 144) dX12_barn_139 (by decide) (fun _ => ?_) (fun q => absurd q (by decide))
      exact hno x _ _ (by rw [b_barn, hB2]) h27 hI3 hL3 _ _
  · refine pv_aload_0 (pc := 10) dX12_barn_10 ?_
    refine pv_iload_2 (pc := 11) dX12_barn_11 ?_
    refine pv_callV1 (pc := 12) dX12_barn_12 mgX12_no lv_X12_115_12 (by decide) (sx_61 hT) (by omega) (c_X12_no (k := (-(w_wants J s)).toNatClampNeg) hT hR rfl (w_wants_in J s)) rfl rfl (by decide) ?_
    refine pv_iret (pc := 15) dX12_barn_15 rfl rfl ?_
    refine qM.ref hM (w_wants_n J s) ?_; unfold S_barn; rw [if_neg h7]

