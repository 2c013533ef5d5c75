/-! tells; bag -/
def q_tel (aim : Int32) (m k : Nat) (bg : ML) (t : pv_T) (I : pv_I) (L : pv_L) (Rf : pv_R) : pv_Q := fun v t1 I1 L1 R1 => v = some (.int (pv_b (w_tel aim m bg).isSome)) ∧ t1 = t ∧ R1 = Rf ∧ fr k I I1 ∧ hL k L L1 ∧ (w_tel aim m bg = none → bg_ok L1 bg) ∧ (∀ l, w_tel aim m bg = some l → tr_ok I1 k l)

set_option maxRecDepth 100000 in
set_option maxHeartbeats 4000000 in
theorem l_tel {G : pv_G} {n aim : Int32} {t : pv_T} {Rf : pv_R} (hT : sh_ok t) (hR : rf_ok Rf) (h0 : 0 ≤ n.toInt) (hn : n.toInt ≤ 7) : ∀ (m k d : Nat), k + m = n.toNatClampNeg → m + 8 ≤ d → ∀ (I : pv_I) (L : pv_L) (bg : ML), bg.length ≤ 4 → I 61 56 = Int32.ofNat bg.length → I 61 57 = aim → bg_ok L bg →
    pv_Mt G mX12_tells d 0 0 [.ref 61, .int (Int32.ofNat k), .int n] t I L Rf (q_tel aim m k bg t I L Rf) := by
  intro m
  induction m with
  | zero =>
    intro k d hk hd I L bg hbl hm ha hbg
    have hnl := i_lit n
    have hkn : Int32.ofNat k = n := by rw [← Int32.toInt_inj, i_of (by omega)]; omega
    refine pv_mt mgX12_tells.2.2.2.2.2 [.ref 61, .int (Int32.ofNat k), .int n, .retAddr 0, .retAddr 0] rfl (Nat.le_of_ble_eq_true rfl) ?_
    refine pv_iload_1 (pc := 0) dX12_tells_0 ?_
    refine pv_iload_2 (pc := 1) dX12_tells_1 ?_
    refine pv_icmp_ne (pc := 2) (tgt := 57) dX12_tells_2 (by decide) (fun h2 => absurd h2 (not_not_intro (by rw [← hkn]))) (fun h2 => ?_)
    refine pv_iconst (pc := 5) (v := 0) dX12_tells_5 (by decide) ?_
    refine pv_istore_3 (pc := 6) dX12_tells_6 (by decide) rfl ?_
    refine l_tlf (r := w_there aim 0 bg) hT hR hm hbl ha hbg ?_ bg.length 0 (by omega) rfl
    have e : w_tel aim 0 bg = if w_there aim 0 bg = true then some [] else none := rfl
    cases hth : w_there aim 0 bg with
    | true =>
      rw [hth, if_pos rfl] at e
      unfold q_tel
      rw [e]
      exact ⟨rfl, rfl, rfl, fr.rf, hL.rf, fun q => (by cases q), fun l hl => by cases hl; exact fun j x hx => by cases hx⟩
    | false =>
      rw [hth, if_neg (by decide)] at e
      unfold q_tel
      rw [e]
      exact ⟨rfl, rfl, rfl, fr.rf, hL.rf, fun _ => hbg, fun l hl => by cases hl⟩
  | succ m ih =>
    intro k d hk hd I L bg hbl hm ha hbg
    have hnl := i_lit n
    have r3 : ∀ (I1 : pv_I) (L1 : pv_L) (l4 : Value), fr k I I1 → hL k L L1 → gn L1 k bg bg.length → w_tel aim m (bg.map (s_stp 0)) = none → w_tel aim m (bg.map (s_stp 1)) = none → w_tel aim m (bg.map (s_stp 2)) = none → pv_V G mX12_tells d 0 0 (q_tel aim (m + 1) k bg t I L Rf) 0 0 107 [.ref 61, .int (Int32.ofNat k), .int n, .int 3, l4] [] t I1 L1 Rf := by
      intro I1 L1 l4 hf hh hg n0 n1 n2
      have hm1 : I1 61 56 = Int32.ofNat bg.length := (hf 61 56 (by decide) (by omega)).trans hm
      have ha1 : I1 61 57 = aim := (hf 61 57 (by decide) (by omega)).trans ha
      refine pv_iload_3 (pc := 107) dX12_tells_107 ?_
      refine pv_iconst (pc := 108) (v := 3) dX12_tells_108 (by decide) ?_
      refine pv_icmp_ge (pc := 109) (tgt := 213) dX12_tells_109 (by decide) (fun _ => ?_) (fun q => absurd q (by decide))
      refine pv_iconst (pc := 213) (v := 0) dX12_tells_213 (by decide) ?_
      refine pv_istore_3 (pc := 214) dX12_tells_214 (by decide) rfl ?_
      refine l_tlC (aim := aim) hT hR hm1 hbl (by omega) (fun L2 hC l3 => ?_) bg.length 0 L1 (by omega) ⟨hh, hg, fun j x hj => absurd hj (Nat.not_lt_zero j)⟩
      refine pv_iconst (pc := 261) (v := 0) dX12_tells_261 (by decide) ?_
      refine pv_iret (pc := 262) dX12_tells_262 rfl rfl ?_
      have e := w_tel_n n0 n1 n2
      unfold q_tel
      rw [e]
      exact ⟨rfl, rfl, rfl, hf, hC.1, fun _ => bp_all hC.2.2, fun l hl => by cases hl⟩
    have r2 : ∀ (I1 : pv_I) (L1 : pv_L) (l4 : Value), fr k I I1 → hL k L L1 → gn L1 k bg bg.length → w_tel aim m (bg.map (s_stp 0)) = none → w_tel aim m (bg.map (s_stp 1)) = none → pv_V G mX12_tells d 0 0 (q_tel aim (m + 1) k bg t I L Rf) 0 0 107 [.ref 61, .int (Int32.ofNat k), .int n, .int 2, l4] [] t I1 L1 Rf := by
      intro I1 L1 l4 hf hh hg n0 n1
      have hm1 : I1 61 56 = Int32.ofNat bg.length := (hf 61 56 (by decide) (by omega)).trans hm
      have ha1 : I1 61 57 = aim := (hf 61 57 (by decide) (by omega)).trans ha
      refine pv_iload_3 (pc := 107) dX12_tells_107 ?_
      refine pv_iconst (pc := 108) (v := 3) dX12_tells_108 (by decide) ?_
      refine pv_icmp_ge (pc := 109) (tgt := 213) dX12_tells_109 (by decide) (fun q => absurd q (by decide)) (fun _ => ?_)
      refine pv_aload_0 (pc := 112) dX12_tells_112 ?_
      refine pv_getR (pc := 113) dX12_tells_113 fg_X12_79_12 rfl (by decide) (sx_61 hT) (rx_61_37 hR) ?_
      refine pv_iload_1 (pc := 116) dX12_tells_116 ?_
      refine pv_iload_3 (pc := 117) dX12_tells_117 ?_
      refine pv_iastorej (pc := 118) dX12_tells_118 (by decide) (sx_81 hT) rfl (i_in (k := k) (by omega) (by decide)) ?_
      refine pv_iconst (pc := 119) (v := 0) dX12_tells_119 (by decide) ?_
      refine pv_istore_4 (pc := 120) dX12_tells_120 (by decide) rfl ?_
      refine l_tlB (aim := aim) (k := k) (I0 := I1) (L0 := L) (s := 2) hT hR hm1 hbl (by decide) (by omega) (by omega) (fun I2 L2 hB l4 => ?_) bg.length 0 _ L1 (by omega) ⟨fr.rf.u (by rw [i_nat (by omega)]; exact Nat.le_refl _), (by rw [pv_u_app, if_pos ⟨rfl, (i_nat (by omega)).symm⟩]), hh, hg, fun j x hj => absurd hj (Nat.not_lt_zero j)⟩
      obtain ⟨b0, b1, b2, b3, b4⟩ := hB
      refine pv_aload_0 (pc := 194) dX12_tells_194 ?_
      refine pv_iload_1 (pc := 195) dX12_tells_195 ?_
      refine pv_iconst (pc := 196) (v := 1) dX12_tells_196 (by decide) ?_
      refine pv_iadd (pc := 197) dX12_tells_197 ?_
      refine pv_topv2 (y := Int32.ofNat (k + 1)) (i_inc k) ?_
      refine pv_iload_2 (pc := 198) dX12_tells_198 ?_
      refine pv_callVq (pc := 199) dX12_tells_199 mgX12_tells lv_X12_383_12 (by decide) (sx_61 hT) (by omega) (ih (k + 1) (d - 1) (by omega) (by omega) I2 L2 (bg.map (s_stp 2)) (by rw [List.length_map]; exact hbl) (by rw [List.length_map]; exact (b0 61 56 (by decide) (by omega)).trans hm1) ((b0 61 57 (by decide) (by omega)).trans ha1) (bp_all (by rw [List.length_map]; exact b4))) rfl rfl (by decide) (fun v t I L Rf hq => ?_)
      obtain ⟨rfl, rfl, rfl, hf3, hh3, hb3, ht3⟩ := hq
      refine pv_if_eq (pc := 202) (tgt := 207) dX12_tells_202 (by decide) (fun h202 => ?_) (fun h202 => ?_)
      · refine pv_iinc_3 (pc := 207) (v := 3) dX12_tells_207 (by decide) (by decide) rfl ?_
        refine pv_goto (pc := 210) (tgt := 107) dX12_tells_210 (by decide) ?_
        have n2 := o_none h202
        exact r3 _ _ _ (hf.tr (b0.tr (hf3.mono (by omega)))) (b2.tr (hh3.mono (by omega))) (gn_cg b3 (fun j hj => ⟨hh3 87 _ (by decide) (by decide) (by omega) (by omega), hh3 88 _ (by decide) (by decide) (by omega) (by omega)⟩)) n0 n1 n2
      · refine pv_iconst (pc := 205) (v := 1) dX12_tells_205 (by decide) ?_
        refine pv_iret (pc := 206) dX12_tells_206 rfl rfl ?_
        obtain ⟨l0, hl0⟩ := o_some h202
        have e1 := w_tel_2 n0 n1 hl0
        unfold q_tel
        rw [e1]
        exact ⟨rfl, rfl, rfl, hf.tr (b0.tr (hf3.mono (by omega))), b2.tr (hh3.mono (by omega)), fun q => (by cases q), fun l hl => by cases hl; exact (ht3 _ hl0).cons ((hf3 81 k (by decide) (by omega)).trans b1)⟩
    have r1 : ∀ (I1 : pv_I) (L1 : pv_L) (l4 : Value), fr k I I1 → hL k L L1 → gn L1 k bg bg.length → w_tel aim m (bg.map (s_stp 0)) = none → pv_V G mX12_tells d 0 0 (q_tel aim (m + 1) k bg t I L Rf) 0 0 107 [.ref 61, .int (Int32.ofNat k), .int n, .int 1, l4] [] t I1 L1 Rf := by
      intro I1 L1 l4 hf hh hg n0
      have hm1 : I1 61 56 = Int32.ofNat bg.length := (hf 61 56 (by decide) (by omega)).trans hm
      have ha1 : I1 61 57 = aim := (hf 61 57 (by decide) (by omega)).trans ha
      refine pv_iload_3 (pc := 107) dX12_tells_107 ?_
      refine pv_iconst (pc := 108) (v := 3) dX12_tells_108 (by decide) ?_
      refine pv_icmp_ge (pc := 109) (tgt := 213) dX12_tells_109 (by decide) (fun q => absurd q (by decide)) (fun _ => ?_)
      refine pv_aload_0 (pc := 112) dX12_tells_112 ?_
      refine pv_getR (pc := 113) dX12_tells_113 fg_X12_79_12 rfl (by decide) (sx_61 hT) (rx_61_37 hR) ?_
      refine pv_iload_1 (pc := 116) dX12_tells_116 ?_
      refine pv_iload_3 (pc := 117) dX12_tells_117 ?_
      refine pv_iastorej (pc := 118) dX12_tells_118 (by decide) (sx_81 hT) rfl (i_in (k := k) (by omega) (by decide)) ?_
      refine pv_iconst (pc := 119) (v := 0) dX12_tells_119 (by decide) ?_
      refine pv_istore_4 (pc := 120) dX12_tells_120 (by decide) rfl ?_
      refine l_tlB (aim := aim) (k := k) (I0 := I1) (L0 := L) (s := 1) hT hR hm1 hbl (by decide) (by omega) (by omega) (fun I2 L2 hB l4 => ?_) bg.length 0 _ L1 (by omega) ⟨fr.rf.u (by rw [i_nat (by omega)]; exact Nat.le_refl _), (by rw [pv_u_app, if_pos ⟨rfl, (i_nat (by omega)).symm⟩]), hh, hg, fun j x hj => absurd hj (Nat.not_lt_zero j)⟩
      obtain ⟨b0, b1, b2, b3, b4⟩ := hB
      refine pv_aload_0 (pc := 194) dX12_tells_194 ?_
      refine pv_iload_1 (pc := 195) dX12_tells_195 ?_
      refine pv_iconst (pc := 196) (v := 1) dX12_tells_196 (by decide) ?_
      refine pv_iadd (pc := 197) dX12_tells_197 ?_
      refine pv_topv2 (y := Int32.ofNat (k + 1)) (i_inc k) ?_
      refine pv_iload_2 (pc := 198) dX12_tells_198 ?_
      refine pv_callVq (pc := 199) dX12_tells_199 mgX12_tells lv_X12_383_12 (by decide) (sx_61 hT) (by omega) (ih (k + 1) (d - 1) (by omega) (by omega) I2 L2 (bg.map (s_stp 1)) (by rw [List.length_map]; exact hbl) (by rw [List.length_map]; exact (b0 61 56 (by decide) (by omega)).trans hm1) ((b0 61 57 (by decide) (by omega)).trans ha1) (bp_all (by rw [List.length_map]; exact b4))) rfl rfl (by decide) (fun v t I L Rf hq => ?_)
      obtain ⟨rfl, rfl, rfl, hf3, hh3, hb3, ht3⟩ := hq
      refine pv_if_eq (pc := 202) (tgt := 207) dX12_tells_202 (by decide) (fun h202 => ?_) (fun h202 => ?_)
      · refine pv_iinc_3 (pc := 207) (v := 2) dX12_tells_207 (by decide) (by decide) rfl ?_
        refine pv_goto (pc := 210) (tgt := 107) dX12_tells_210 (by decide) ?_
        have n1 := o_none h202
        exact r2 _ _ _ (hf.tr (b0.tr (hf3.mono (by omega)))) (b2.tr (hh3.mono (by omega))) (gn_cg b3 (fun j hj => ⟨hh3 87 _ (by decide) (by decide) (by omega) (by omega), hh3 88 _ (by decide) (by decide) (by omega) (by omega)⟩)) n0 n1
      · refine pv_iconst (pc := 205) (v := 1) dX12_tells_205 (by decide) ?_
        refine pv_iret (pc := 206) dX12_tells_206 rfl rfl ?_
        obtain ⟨l0, hl0⟩ := o_some h202
        have e1 := w_tel_1 n0 hl0
        unfold q_tel
        rw [e1]
        exact ⟨rfl, rfl, rfl, hf.tr (b0.tr (hf3.mono (by omega))), b2.tr (hh3.mono (by omega)), fun q => (by cases q), fun l hl => by cases hl; exact (ht3 _ hl0).cons ((hf3 81 k (by decide) (by omega)).trans b1)⟩
    have r0 : ∀ (I1 : pv_I) (L1 : pv_L) (l4 : Value), fr k I I1 → hL k L L1 → gn L1 k bg bg.length → pv_V G mX12_tells d 0 0 (q_tel aim (m + 1) k bg t I L Rf) 0 0 107 [.ref 61, .int (Int32.ofNat k), .int n, .int 0, l4] [] t I1 L1 Rf := by
      intro I1 L1 l4 hf hh hg 
      have hm1 : I1 61 56 = Int32.ofNat bg.length := (hf 61 56 (by decide) (by omega)).trans hm
      have ha1 : I1 61 57 = aim := (hf 61 57 (by decide) (by omega)).trans ha
      refine pv_iload_3 (pc := 107) dX12_tells_107 ?_
      refine pv_iconst (pc := 108) (v := 3) dX12_tells_108 (by decide) ?_
      refine pv_icmp_ge (pc := 109) (tgt := 213) dX12_tells_109 (by decide) (fun q => absurd q (by decide)) (fun _ => ?_)
      refine pv_aload_0 (pc := 112) dX12_tells_112 ?_
      refine pv_getR (pc := 113) dX12_tells_113 fg_X12_79_12 rfl (by decide) (sx_61 hT) (rx_61_37 hR) ?_
      refine pv_iload_1 (pc := 116) dX12_tells_116 ?_
      refine pv_iload_3 (pc := 117) dX12_tells_117 ?_
      refine pv_iastorej (pc := 118) dX12_tells_118 (by decide) (sx_81 hT) rfl (i_in (k := k) (by omega) (by decide)) ?_
      refine pv_iconst (pc := 119) (v := 0) dX12_tells_119 (by decide) ?_
      refine pv_istore_4 (pc := 120) dX12_tells_120 (by decide) rfl ?_
      refine l_tlB (aim := aim) (k := k) (I0 := I1) (L0 := L) (s := 0) hT hR hm1 hbl (by decide) (by omega) (by omega) (fun I2 L2 hB l4 => ?_) bg.length 0 _ L1 (by omega) ⟨fr.rf.u (by rw [i_nat (by omega)]; exact Nat.le_refl _), (by rw [pv_u_app, if_pos ⟨rfl, (i_nat (by omega)).symm⟩]), hh, hg, fun j x hj => absurd hj (Nat.not_lt_zero j)⟩
      obtain ⟨b0, b1, b2, b3, b4⟩ := hB
      refine pv_aload_0 (pc := 194) dX12_tells_194 ?_
      refine pv_iload_1 (pc := 195) dX12_tells_195 ?_
      refine pv_iconst (pc := 196) (v := 1) dX12_tells_196 (by decide) ?_
      refine pv_iadd (pc := 197) dX12_tells_197 ?_
      refine pv_topv2 (y := Int32.ofNat (k + 1)) (i_inc k) ?_
      refine pv_iload_2 (pc := 198) dX12_tells_198 ?_
      refine pv_callVq (pc := 199) dX12_tells_199 mgX12_tells lv_X12_383_12 (by decide) (sx_61 hT) (by omega) (ih (k + 1) (d - 1) (by omega) (by omega) I2 L2 (bg.map (s_stp 0)) (by rw [List.length_map]; exact hbl) (by rw [List.length_map]; exact (b0 61 56 (by decide) (by omega)).trans hm1) ((b0 61 57 (by decide) (by omega)).trans ha1) (bp_all (by rw [List.length_map]; exact b4))) rfl rfl (by decide) (fun v t I L Rf hq => ?_)
      obtain ⟨rfl, rfl, rfl, hf3, hh3, hb3, ht3⟩ := hq
      refine pv_if_eq (pc := 202) (tgt := 207) dX12_tells_202 (by decide) (fun h202 => ?_) (fun h202 => ?_)
      · refine pv_iinc_3 (pc := 207) (v := 1) dX12_tells_207 (by decide) (by decide) rfl ?_
        refine pv_goto (pc := 210) (tgt := 107) dX12_tells_210 (by decide) ?_
        have n0 := o_none h202
        exact r1 _ _ _ (hf.tr (b0.tr (hf3.mono (by omega)))) (b2.tr (hh3.mono (by omega))) (gn_cg b3 (fun j hj => ⟨hh3 87 _ (by decide) (by decide) (by omega) (by omega), hh3 88 _ (by decide) (by decide) (by omega) (by omega)⟩)) n0
      · refine pv_iconst (pc := 205) (v := 1) dX12_tells_205 (by decide) ?_
        refine pv_iret (pc := 206) dX12_tells_206 rfl rfl ?_
        obtain ⟨l0, hl0⟩ := o_some h202
        have e1 := w_tel_0  hl0
        unfold q_tel
        rw [e1]
        exact ⟨rfl, rfl, rfl, hf.tr (b0.tr (hf3.mono (by omega))), b2.tr (hh3.mono (by omega)), fun q => (by cases q), fun l hl => by cases hl; exact (ht3 _ hl0).cons ((hf3 81 k (by decide) (by omega)).trans b1)⟩
    refine pv_mt mgX12_tells.2.2.2.2.2 [.ref 61, .int (Int32.ofNat k), .int n, .retAddr 0, .retAddr 0] rfl (Nat.le_of_ble_eq_true rfl) ?_
    refine pv_iload_1 (pc := 0) dX12_tells_0 ?_
    refine pv_iload_2 (pc := 1) dX12_tells_1 ?_
    refine pv_icmp_ne (pc := 2) (tgt := 57) dX12_tells_2 (by decide) (fun h2 => ?_) (fun h2 => absurd h2 (by intro r; rw [← Int32.toInt_inj, i_of (by omega)] at r; have := i_lit n; omega))
    refine pv_iconst (pc := 57) (v := 0) dX12_tells_57 (by decide) ?_
    refine pv_istore_3 (pc := 58) dX12_tells_58 (by decide) rfl ?_
    refine l_tlA (aim := aim) (L0 := L) hT hR hm hbl (by omega) (fun L1 hA l3 => ?_) bg.length 0 L (by omega) ⟨hL.rf, hbg, fun j x hj => absurd hj (Nat.not_lt_zero j)⟩
    refine pv_iconst (pc := 105) (v := 0) dX12_tells_105 (by decide) ?_
    refine pv_istore_3 (pc := 106) dX12_tells_106 (by decide) rfl ?_
    exact r0 _ _ _ fr.rf hA.1 hA.2.2

def w_bg (C : Nat → Int64) (n : Nat) : ML := (List.range n).map (fun j => (C (2 * j), C (2 * j + 1)))
def w_bgN (C : Nat → Int64) : Nat → Bool
  | 0 => true
  | m + 1 => w_bgN C m && s_num (C (2 * m)) (C (2 * m + 1))
def w_bagL (aim : Int32) (bg : ML) : Nat → Nat → Option (List Int32)
  | 0, _ => none
  | m + 1, n => match w_tel aim n bg with
    | some l => some l
    | none => w_bagL aim bg m (n + 1)
def S_bag (J : pv_I) (K : pv_L) (s n k i : Int32) : SR := if w_wants J s = 0 then (if n < 0 then S_ref J K 4 (.int (-4 - 10)) else if J 8 s.toNatClampNeg / 2 < n then S_ref J K 5 (.int (-5 - 10)) else if n < 1 ∨ 4 < n ∨ k < 0 ∨ ¬ k < n then S_ref J K 6 (.int (-6 - 10)) else if w_bgN (K (1 + s.toNatClampNeg)) n.toNatClampNeg = true then S_foundAt J K i (w_bagL k (w_bg (K (1 + s.toNatClampNeg)) n.toNatClampNeg) 8 0) else S_ref J K 6 (.int (-6 - 10)))
  else S_ref J K (-(w_wants J s)).toNatClampNeg (.int (w_wants J s - 10))
theorem w_bgN_iff (C : Nat → Int64) : ∀ n, w_bgN C n = true ↔ ∀ j, j < n → s_num (C (2 * j)) (C (2 * j + 1)) = true
  | 0 => ⟨fun _ i h => absurd h (Nat.not_lt_zero i), fun _ => rfl⟩
  | n + 1 => by
    have ih := w_bgN_iff C n
    simp only [w_bgN, Bool.and_eq_true, ih]
    constructor
    · rintro ⟨h1, h2⟩ i hi
      by_cases e : i = n
      · rw [e]; exact h2
      · exact h1 i (by omega)
    · intro h
      exact ⟨fun i hi => h i (by omega), h n (by omega)⟩
theorem bg_len (C : Nat → Int64) (n : Nat) : (w_bg C n).length = n := by unfold w_bg; rw [List.length_map, List.length_range]
theorem bg_get {C : Nat → Int64} {n j : Nat} (h : j < n) : (w_bg C n)[j]? = some (C (2 * j), C (2 * j + 1)) := by
  unfold w_bg
  rw [List.getElem?_map, List.getElem?_range h]; rfl
theorem w_wants_in (J : pv_I) (s : Int32) : vp_in (-(w_wants J s)) 8 := by
  rcases w_wants_c J s with q | q | q | q <;> (rw [q]; unfold vp_in; decide)
theorem w_wants_n (J : pv_I) (s : Int32) : (-(w_wants J s)).toNatClampNeg < 8 := (pv_in_lt (w_wants_in J s)).2.2.1
theorem ix2 {s : Int32} (hs : vp_in s 8) {j : Nat} (hj : 2 * j + 1 < 160) : 160 * s + 2 * Int32.ofNat j = 160 * s + Int32.ofNat (2 * j) ∧ 160 * s + 2 * Int32.ofNat j + 1 = 160 * s + Int32.ofNat (2 * j + 1) := by
  have e : 2 * Int32.ofNat j = Int32.ofNat (2 * j) := by rw [Int32.ofNat_mul]; rfl
  rw [e]
  refine ⟨rfl, ?_⟩
  rw [Int32.add_assoc, i_inc]
set_option maxRecDepth 100000 in
set_option maxHeartbeats 4000000 in
theorem l_bgN {G : pv_G} {d : Nat} {Q : pv_Q} {J : pv_I} {K : pv_L} {s n k i z5 : Int32} {l7 : Value} {t : pv_T} {I : pv_I} {L : pv_L} {Rf : pv_R} (hT : sh_ok t) (hR : rf_ok Rf) (hM : RM J K I L) (hs : vp_in s 8) (h0 : 0 ≤ n.toInt) (hn : n.toInt ≤ 4) (hd : 6 ≤ d)
    (hyes : (∀ j, j < n.toNatClampNeg → s_num (K (1 + s.toNatClampNeg) (2 * j)) (K (1 + s.toNatClampNeg) (2 * j + 1)) = true) → ∀ l6, pv_V G mX12_bag d 0 0 Q 0 0 136 [.ref 61, .int s, .int n, .int k, .int i, .int z5, l6, l7] [] t I L Rf) (hno : ¬ (∀ j, j < n.toNatClampNeg → s_num (K (1 + s.toNatClampNeg) (2 * j)) (K (1 + s.toNatClampNeg) (2 * j + 1)) = true) → Q (some (.int (-6 - 10))) t (s_ref I 6) L Rf) : ∀ (m j : Nat), j + m = n.toNatClampNeg → (∀ q, q < j → s_num (K (1 + s.toNatClampNeg) (2 * q)) (K (1 + s.toNatClampNeg) (2 * q + 1)) = true) →
    pv_V G mX12_bag d 0 0 Q 0 0 78 [.ref 61, .int s, .int n, .int k, .int i, .int z5, .int (Int32.ofNat j), l7] [] t I L Rf := by
  have hnl := i_lit n
  intro m
  induction m with
  | zero =>
    intro j hj hf
    refine pv_iload_6 (pc := 78) dX12_bag_78 ?_
    refine pv_iload_2 (pc := 80) dX12_bag_80 ?_
    refine pv_icmp_ge (pc := 81) (tgt := 136) dX12_bag_81 (by decide) (fun h81 => ?_) (fun h81 => absurd h81 (by rw [i_lt, i_of (by omega)]; omega))
    exact hyes (fun q hq => hf q (by omega)) _
  | succ m ih =>
    intro j hj hf
    refine pv_iload_6 (pc := 78) dX12_bag_78 ?_
    refine pv_iload_2 (pc := 80) dX12_bag_80 ?_
    refine pv_icmp_ge (pc := 81) (tgt := 136) dX12_bag_81 (by decide) (fun h81 => absurd h81 (not_not_intro (by rw [i_lt, i_of (by omega)]; omega))) (fun h81 => ?_)
    refine pv_aload_0 (pc := 84) dX12_bag_84 ?_
    refine pv_aload_0 (pc := 85) dX12_bag_85 ?_
    refine pv_getR (pc := 86) dX12_bag_86 fg_X12_48_12 rfl (by decide) (sx_61 hT) (rx_61_16 hR) ?_
    refine pv_sipush (pc := 89) (v := 160) dX12_bag_89 (by decide) ?_
    refine pv_iload_1 (pc := 92) dX12_bag_92 ?_
    refine pv_imul (pc := 93) dX12_bag_93 ?_
    refine pv_iconst (pc := 94) (v := 2) dX12_bag_94 (by decide) ?_
    refine pv_iload_6 (pc := 95) dX12_bag_95 ?_
    refine pv_imul (pc := 97) dX12_bag_97 ?_
    refine pv_iadd (pc := 98) dX12_bag_98 ?_
    refine pv_topv2 (y := 160 * s + Int32.ofNat (2 * j)) (ix2 hs (by omega)).1 ?_
    refine pv_laloadj (pc := 99) dX12_bag_99 (by decide) (sx_71 hT) rfl (ix_cell hs (i_in (k := 2 * j) (by omega) (by decide))).2 ?_
    refine pv_topw (y := K (1 + s.toNatClampNeg) (2 * j)) (by rw [(ix_cell hs (i_in (k := 2 * j) (by omega) (by decide))).1, i_nat (by omega)]; exact hM.2.2.2.2.2.2.1 _ (pv_in_lt hs).2.2.1 (2 * j) (by omega)) ?_
    refine pv_aload_0 (pc := 100) dX12_bag_100 ?_
    refine pv_getR (pc := 101) dX12_bag_101 fg_X12_48_12 rfl (by decide) (sx_61 hT) (rx_61_16 hR) ?_
    refine pv_sipush (pc := 104) (v := 160) dX12_bag_104 (by decide) ?_
    refine pv_iload_1 (pc := 107) dX12_bag_107 ?_
    refine pv_imul (pc := 108) dX12_bag_108 ?_
    refine pv_iconst (pc := 109) (v := 2) dX12_bag_109 (by decide) ?_
    refine pv_iload_6 (pc := 110) dX12_bag_110 ?_
    refine pv_imul (pc := 112) dX12_bag_112 ?_
    refine pv_iadd (pc := 113) dX12_bag_113 ?_
    refine pv_iconst (pc := 114) (v := 1) dX12_bag_114 (by decide) ?_
    refine pv_iadd (pc := 115) dX12_bag_115 ?_
    refine pv_topv2 (y := 160 * s + Int32.ofNat (2 * j + 1)) (ix2 hs (by omega)).2 ?_
    refine pv_laloadj (pc := 116) dX12_bag_116 (by decide) (sx_71 hT) rfl (ix_cell hs (i_in (k := 2 * j + 1) (by omega) (by decide))).2 ?_
    refine pv_topw (y := K (1 + s.toNatClampNeg) (2 * j + 1)) (by rw [(ix_cell hs (i_in (k := 2 * j + 1) (by omega) (by decide))).1, i_nat (by omega)]; exact hM.2.2.2.2.2.2.1 _ (pv_in_lt hs).2.2.1 (2 * j + 1) (by omega)) ?_
    refine pv_callV1 (pc := 117) dX12_bag_117 mgX12_isNumber lv_X12_143_12 (by decide) (sx_61 hT) (by omega) (c_X12_isNumber hT (by omega)) rfl rfl (by decide) ?_
    refine pv_if_ne (pc := 120) (tgt := 130) dX12_bag_120 (by decide) (fun h120 => ?_) (fun h120 => ?_)
    · refine pv_iinc_6 (pc := 130) (v := _ + 1) dX12_bag_130 rfl (by decide) rfl ?_
      refine pv_goto (pc := 133) (tgt := 78) dX12_bag_133 (by decide) ?_
      rw [i_inc]
      exact ih (j + 1) (by omega) (fun q hq => by
        by_cases e : q = j
        · rw [e]; exact (pv_b_n0 _).mp h120
        · exact hf q (by omega))
    · refine pv_aload_0 (pc := 123) dX12_bag_123 ?_
      refine pv_bipush (pc := 124) (v := (-6)) dX12_bag_124 (by decide) ?_
      refine pv_callV1 (pc := 126) dX12_bag_126 mgX12_noTen lv_X12_292_12 (by decide) (sx_61 hT) (by omega) (c_X12_noTen (k := 6) hT hR (by decide) (by unfold vp_in; decide)) rfl rfl (by decide) ?_
      refine pv_iret (pc := 129) dX12_bag_129 rfl rfl ?_
      exact hno (fun g => by have f1 := g j (by omega); rw [(pv_b_0 _).mp h120] at f1; cases f1)

set_option maxRecDepth 100000 in
set_option maxHeartbeats 4000000 in
theorem l_bgF {G : pv_G} {d : Nat} {Q : pv_Q} {J : pv_I} {K : pv_L} {s n k i z5 z6 : Int32} {t : pv_T} {I0 : pv_I} {L0 : pv_L} {I : pv_I} {Rf : pv_R} (hT : sh_ok t) (hR : rf_ok Rf) (hM : RM J K I0 L0) (hs : vp_in s 8) (h0 : 0 ≤ n.toInt) (hn : n.toInt ≤ 4) (hd : 6 ≤ d)
    (hQ : ∀ L, (kS I0 L0 I L ∧ I 61 56 = n ∧ I 61 57 = k ∧ bp L (w_bg (K (1 + s.toNatClampNeg)) n.toNatClampNeg) n.toNatClampNeg) → ∀ l7, pv_V G mX12_bag d 0 0 Q 0 0 217 [.ref 61, .int s, .int n, .int k, .int i, .int z5, .int z6, l7] [] t I L Rf) : ∀ (m j : Nat) (L : pv_L), j + m = n.toNatClampNeg → (kS I0 L0 I L ∧ I 61 56 = n ∧ I 61 57 = k ∧ bp L (w_bg (K (1 + s.toNatClampNeg)) n.toNatClampNeg) j) →
    pv_V G mX12_bag d 0 0 Q 0 0 159 [.ref 61, .int s, .int n, .int k, .int i, .int z5, .int z6, .int (Int32.ofNat j)] [] t I L Rf := by
  have hnl := i_lit n
  intro m
  induction m with
  | zero =>
    intro j L hj hi
    refine pv_iload_7 (pc := 159) dX12_bag_159 ?_
    refine pv_iload_2 (pc := 161) dX12_bag_161 ?_
    refine pv_icmp_ge (pc := 162) (tgt := 217) dX12_bag_162 (by decide) (fun h162 => ?_) (fun h162 => absurd h162 (by rw [i_lt, i_of (by omega)]; omega))
    rw [show j = n.toNatClampNeg by omega] at hi
    exact hQ _ hi _
  | succ m ih =>
    intro j L hj hi
    refine pv_iload_7 (pc := 159) dX12_bag_159 ?_
    refine pv_iload_2 (pc := 161) dX12_bag_161 ?_
    refine pv_icmp_ge (pc := 162) (tgt := 217) dX12_bag_162 (by decide) (fun h162 => absurd h162 (not_not_intro (by rw [i_lt, i_of (by omega)]; omega))) (fun h162 => ?_)
    have ej := i_nat (k := j) (by omega)
    have hM1 := hM.scr hi.1
    refine pv_aload_0 (pc := 165) dX12_bag_165 ?_
    refine pv_getR (pc := 166) dX12_bag_166 fg_X12_91_12 rfl (by decide) (sx_61 hT) (rx_61_52 hR) ?_
    refine pv_iload_7 (pc := 169) dX12_bag_169 ?_
    refine pv_aload_0 (pc := 171) dX12_bag_171 ?_
    refine pv_getR (pc := 172) dX12_bag_172 fg_X12_48_12 rfl (by decide) (sx_61 hT) (rx_61_16 hR) ?_
    refine pv_sipush (pc := 175) (v := 160) dX12_bag_175 (by decide) ?_
    refine pv_iload_1 (pc := 178) dX12_bag_178 ?_
    refine pv_imul (pc := 179) dX12_bag_179 ?_
    refine pv_iconst (pc := 180) (v := 2) dX12_bag_180 (by decide) ?_
    refine pv_iload_7 (pc := 181) dX12_bag_181 ?_
    refine pv_imul (pc := 183) dX12_bag_183 ?_
    refine pv_iadd (pc := 184) dX12_bag_184 ?_
    refine pv_topv2 (y := 160 * s + Int32.ofNat (2 * j)) (ix2 hs (by omega)).1 ?_
    refine pv_laloadj (pc := 185) dX12_bag_185 (by decide) (sx_71 hT) rfl (ix_cell hs (i_in (k := 2 * j) (by omega) (by decide))).2 ?_
    refine pv_topw (y := K (1 + s.toNatClampNeg) (2 * j)) (by rw [(ix_cell hs (i_in (k := 2 * j) (by omega) (by decide))).1, i_nat (k := 2 * j) (by omega)]; exact hM1.2.2.2.2.2.2.1 _ (pv_in_lt hs).2.2.1 (2 * j) (by omega)) ?_
    refine pv_lastorej (pc := 186) dX12_bag_186 (by decide) (sx_85 hT) rfl (i_in (k := j) (by omega) (by decide)) ?_
    refine pv_aload_0 (pc := 187) dX12_bag_187 ?_
    refine pv_getR (pc := 188) dX12_bag_188 fg_X12_94_12 rfl (by decide) (sx_61 hT) (rx_61_53 hR) ?_
    refine pv_iload_7 (pc := 191) dX12_bag_191 ?_
    refine pv_aload_0 (pc := 193) dX12_bag_193 ?_
    refine pv_getR (pc := 194) dX12_bag_194 fg_X12_48_12 rfl (by decide) (sx_61 hT) (rx_61_16 hR) ?_
    refine pv_sipush (pc := 197) (v := 160) dX12_bag_197 (by decide) ?_
    refine pv_iload_1 (pc := 200) dX12_bag_200 ?_
    refine pv_imul (pc := 201) dX12_bag_201 ?_
    refine pv_iconst (pc := 202) (v := 2) dX12_bag_202 (by decide) ?_
    refine pv_iload_7 (pc := 203) dX12_bag_203 ?_
    refine pv_imul (pc := 205) dX12_bag_205 ?_
    refine pv_iadd (pc := 206) dX12_bag_206 ?_
    refine pv_iconst (pc := 207) (v := 1) dX12_bag_207 (by decide) ?_
    refine pv_iadd (pc := 208) dX12_bag_208 ?_
    refine pv_topv2 (y := 160 * s + Int32.ofNat (2 * j + 1)) (ix2 hs (by omega)).2 ?_
    refine pv_laloadj (pc := 209) dX12_bag_209 (by decide) (sx_71 hT) rfl (ix_cell hs (i_in (k := 2 * j + 1) (by omega) (by decide))).2 ?_
    refine pv_topw (y := K (1 + s.toNatClampNeg) (2 * j + 1)) (by rw [(ix_cell hs (i_in (k := 2 * j + 1) (by omega) (by decide))).1, i_nat (k := 2 * j + 1) (by omega)]; exact hM1.2.2.2.2.2.2.1 _ (pv_in_lt hs).2.2.1 (2 * j + 1) (by omega)) ?_
    refine pv_lastorej (pc := 210) dX12_bag_210 (by decide) (sx_86 hT) rfl (i_in (k := j) (by omega) (by decide)) ?_
    refine pv_iinc_7 (pc := 211) (v := _ + 1) dX12_bag_211 rfl (by decide) rfl ?_
    refine pv_goto (pc := 214) (tgt := 159) dX12_bag_214 (by decide) ?_
    rw [i_inc]
    refine ih (j + 1) _ (by omega) ?_
    obtain ⟨i1, i2, i3, i4⟩ := hi
    rw [ej]
    refine ⟨(i1.uL 85 _ _ (by omega)).uL 86 _ _ (by omega), i2, i3, bp_u i4 (fun z hz => ?_)⟩
    rw [bg_get (by omega)] at hz
    cases hz
    exact ⟨rfl, rfl⟩

set_option maxRecDepth 100000 in
set_option maxHeartbeats 4000000 in
theorem l_bag {G : pv_G} {d : Nat} {J : pv_I} {K : pv_L} {s n k i z5 : Int32} {t : pv_T} {I0 : pv_I} {L0 : pv_L} {Rf : pv_R} {r : SR} (hT : sh_ok t) (hR : rf_ok Rf) (hM : RM J K I0 L0) (hs : vp_in s 8) (h0 : 0 ≤ n.toInt) (hn : n.toInt ≤ 4) (hd : 20 ≤ d) : ∀ (m j : Nat) (I : pv_I) (L : pv_L) (l7 : Value), kS I0 L0 I L → I 61 56 = n → I 61 57 = k → j + m = 8 → S_foundAt J K i (w_bagL k (w_bg (K (1 + s.toNatClampNeg)) n.toNatClampNeg) m j) = r →
    pv_V G mX12_bag d 0 0 (qM r t I0 L0 Rf) 0 0 149 [.ref 61, .int s, .int n, .int k, .int i, .int z5, .int (Int32.ofNat j), l7] [] t I L Rf := by
  have hnl := i_lit n
  intro m
  induction m with
  | zero =>
    intro j I L l7 hk h56 h57 hj hr
    refine pv_iload_6 (pc := 149) dX12_bag_149 ?_
    refine pv_bipush (pc := 151) (v := 7) dX12_bag_151 (by decide) ?_
    refine pv_icmp_gt (pc := 153) (tgt := 275) dX12_bag_153 (by decide) (fun h153 => ?_) (fun h153 => absurd h153 (not_not_intro (by rw [i_lt, i_of (by omega), show (7 : Int32).toInt = 7 by decide]; omega)))
    refine pv_aload_0 (pc := 275) dX12_bag_275 ?_
    refine pv_bipush (pc := 276) (v := (-5)) dX12_bag_276 (by decide) ?_
    refine pv_callV1 (pc := 278) dX12_bag_278 mgX12_noTen lv_X12_292_12 (by decide) (sx_61 hT) (by omega) (c_X12_noTen (k := 5) hT hR (by decide) (by unfold vp_in; decide)) rfl rfl (by decide) ?_
    refine pv_iret (pc := 281) dX12_bag_281 rfl rfl ?_
    rw [w_bagL] at hr
    exact qM.scrref hM hk k_lt5b hr.symm
  | succ m ih =>
    intro j I L l7 hk h56 h57 hj hr
    refine pv_iload_6 (pc := 149) dX12_bag_149 ?_
    refine pv_bipush (pc := 151) (v := 7) dX12_bag_151 (by decide) ?_
    refine pv_icmp_gt (pc := 153) (tgt := 275) dX12_bag_153 (by decide) (fun h153 => absurd h153 (by rw [i_lt, i_of (by omega), show (7 : Int32).toInt = 7 by decide]; omega)) (fun h153 => ?_)
    refine pv_iconst (pc := 156) (v := 0) dX12_bag_156 (by decide) ?_
    refine pv_istore_7 (pc := 157) dX12_bag_157 (by decide) rfl ?_
    refine l_bgF hT hR hM hs h0 hn (by omega) (fun L1 hB l7 => ?_) n.toNatClampNeg 0 _ (by omega) ⟨hk, h56, h57, fun j x hj => absurd hj (Nat.not_lt_zero j)⟩
    refine pv_aload_0 (pc := 217) dX12_bag_217 ?_
    refine pv_iconst (pc := 218) (v := 0) dX12_bag_218 (by decide) ?_
    refine pv_iload_6 (pc := 219) dX12_bag_219 ?_
    refine pv_callVq (pc := 221) dX12_bag_221 mgX12_tells lv_X12_383_12 (by decide) (sx_61 hT) (by omega) (l_tel (aim := k) hT hR (by rw [i_of (by omega)]; omega) (by rw [i_of (by omega)]; omega) j 0 (d - 1) (by rw [i_nat (by omega)]; omega) (by omega) I L1 (w_bg (K (1 + s.toNatClampNeg)) n.toNatClampNeg) (by rw [bg_len]; omega) (by rw [bg_len, hB.2.1, ← Int32.toInt_inj, i_of (by omega)]; omega) hB.2.2.1 (bp_all (by rw [bg_len]; exact hB.2.2.2))) rfl rfl (by decide) (fun v t I L Rf hq => ?_)
    obtain ⟨rfl, rfl, rfl, hf, hh, hb2, ht⟩ := hq
    have hk1 := hB.1.tr (h_kS hf hh)
    refine pv_if_ne (pc := 224) (tgt := 230) dX12_bag_224 (by decide) (fun h224 => ?_) (fun h224 => ?_)
    · refine pv_iload_4 (pc := 230) dX12_bag_230 ?_
      refine pv_iconst (pc := 232) (v := (-1)) dX12_bag_232 (by decide) ?_
      refine pv_icmp_lt (pc := 233) (tgt := 243) dX12_bag_233 (by decide) (fun h233 => ?_) (fun h233 => ?_)
      · refine pv_aload_0 (pc := 243) dX12_bag_243 ?_
        refine pv_bipush (pc := 244) (v := (-5)) dX12_bag_244 (by decide) ?_
        refine pv_callV1 (pc := 246) dX12_bag_246 mgX12_noTen lv_X12_292_12 (by decide) (sx_61 hT) (by omega) (c_X12_noTen (k := 5) hT hR (by decide) (by unfold vp_in; decide)) rfl rfl (by decide) ?_
        refine pv_iret (pc := 249) dX12_bag_249 rfl rfl ?_
        obtain ⟨l, hl⟩ := o_some h224
        have hlen := w_tel_len hl
        have hto := ht l hl
        rw [w_bagL, hl] at hr
        have hr : S_foundAt J K i (some l) = r := hr
        rw [← hr]
        rw [S_found_s, hlen]
        first
          | (have f1 := h233; refine qM.scrref hM hk1 k_lt5b ?_; rw [if_pos (Or.inl f1)]; done)
          | (have f1 := h240; refine qM.scrref hM hk1 k_lt5b ?_; rw [if_pos (Or.inr f1)]; done)
      · refine pv_iload_4 (pc := 236) dX12_bag_236 ?_
        refine pv_iload_6 (pc := 238) dX12_bag_238 ?_
        refine pv_icmp_lt (pc := 240) (tgt := 250) dX12_bag_240 (by decide) (fun h240 => ?_) (fun h240 => ?_)
        · refine pv_iload_4 (pc := 250) dX12_bag_250 ?_
          refine pv_iconst (pc := 252) (v := (-1)) dX12_bag_252 (by decide) ?_
          refine pv_icmp_ne (pc := 253) (tgt := 261) dX12_bag_253 (by decide) (fun h253 => ?_) (fun h253 => ?_)
          · refine pv_aload_0 (pc := 261) dX12_bag_261 ?_
            refine pv_getR (pc := 262) dX12_bag_262 fg_X12_79_12 rfl (by decide) (sx_61 hT) (rx_61_37 hR) ?_
            refine pv_iload_4 (pc := 265) dX12_bag_265 ?_
            refine pv_ialoadj (pc := 267) dX12_bag_267 (sx_81 hT) rfl (by have hx := i_ixl h233 h253 h240 (by omega); exact pv_in_of (by omega) (by omega)) ?_
            refine pv_iret (pc := 268) dX12_bag_268 rfl rfl ?_
            obtain ⟨l, hl⟩ := o_some h224
            have hlen := w_tel_len hl
            have hto := ht l hl
            rw [w_bagL, hl] at hr
            have hr : S_foundAt J K i (some l) = r := hr
            rw [← hr]
            rw [S_found_s, hlen]
            rw [if_neg (fun q => q.elim h233 (fun z => z h240))]
            first
              | (have f1 := h253; rw [if_pos f1]; exact qM.scr hM hk1 rfl)
              | (have f1 := h253
                 have hx := i_ixl h233 f1 h240 (by omega)
                 rw [if_neg f1]
                 refine qM.scr hM hk1 ?_
                 rw [← tr_getD hto (by omega)])
          · refine pv_iload_6 (pc := 256) dX12_bag_256 ?_
            refine pv_goto (pc := 258) (tgt := 268) dX12_bag_258 (by decide) ?_
            refine pv_iret (pc := 268) dX12_bag_268 rfl rfl ?_
            obtain ⟨l, hl⟩ := o_some h224
            have hlen := w_tel_len hl
            have hto := ht l hl
            rw [w_bagL, hl] at hr
            have hr : S_foundAt J K i (some l) = r := hr
            rw [← hr]
            rw [S_found_s, hlen]
            rw [if_neg (fun q => q.elim h233 (fun z => z h240))]
            first
              | (have f1 := h253; rw [if_pos f1]; exact qM.scr hM hk1 rfl)
              | (have f1 := h253
                 have hx := i_ixl h233 f1 h240 (by omega)
                 rw [if_neg f1]
                 refine qM.scr hM hk1 ?_
                 rw [← tr_getD hto (by omega)])
        · refine pv_aload_0 (pc := 243) dX12_bag_243 ?_
          refine pv_bipush (pc := 244) (v := (-5)) dX12_bag_244 (by decide) ?_
          refine pv_callV1 (pc := 246) dX12_bag_246 mgX12_noTen lv_X12_292_12 (by decide) (sx_61 hT) (by omega) (c_X12_noTen (k := 5) hT hR (by decide) (by unfold vp_in; decide)) rfl rfl (by decide) ?_
          refine pv_iret (pc := 249) dX12_bag_249 rfl rfl ?_
          obtain ⟨l, hl⟩ := o_some h224
          have hlen := w_tel_len hl
          have hto := ht l hl
          rw [w_bagL, hl] at hr
          have hr : S_foundAt J K i (some l) = r := hr
          rw [← hr]
          rw [S_found_s, hlen]
          first
            | (have f1 := h233; refine qM.scrref hM hk1 k_lt5b ?_; rw [if_pos (Or.inl f1)]; done)
            | (have f1 := h240; refine qM.scrref hM hk1 k_lt5b ?_; rw [if_pos (Or.inr f1)]; done)
    · refine pv_goto (pc := 227) (tgt := 269) dX12_bag_227 (by decide) ?_
      refine pv_iinc_6 (pc := 269) (v := _ + 1) dX12_bag_269 rfl (by decide) rfl ?_
      refine pv_goto (pc := 272) (tgt := 149) dX12_bag_272 (by decide) ?_
      rw [w_bagL, o_none h224] at hr
      rw [i_inc]
      exact ih (j + 1) _ _ _ hk1 ((hf 61 56 (by decide) (by omega)).trans hB.2.1) ((hf 61 57 (by decide) (by omega)).trans hB.2.2.1) (by omega) hr

set_option maxRecDepth 100000 in
set_option maxHeartbeats 4000000 in
theorem c_X12_bag {G : pv_G} {d : Nat} {J : pv_I} {K : pv_L} {s n k i : Int32} {t : pv_T} {I : pv_I} {L : pv_L} {Rf : pv_R} (hT : sh_ok t) (hR : rf_ok Rf) (hW : WF J K) (hM : RM J K I L) (hd20 : 20 ≤ d) : pv_Mt G mX12_bag d 0 0 [.ref 61, .int s, .int n, .int k, .int i] t I L Rf (qM (S_bag J K s n k i) t I L Rf) := by
  refine pv_mt mgX12_bag.2.2.2.2.2 [.ref 61, .int s, .int n, .int k, .int i, .retAddr 0, .retAddr 0, .retAddr 0] rfl (Nat.le_of_ble_eq_true rfl) ?_
  have hd : 6 ≤ d := by omega
  obtain ⟨⟨m0, m1, m2, m3, m4, m5, m6, m7, m8⟩, mf, mst, mh, mr, mt, mc, mi⟩ := id hM
  refine pv_aload_0 (pc := 0) dX12_bag_0 ?_
  refine pv_iload_1 (pc := 1) dX12_bag_1 ?_
  refine pv_callV1 (pc := 2) dX12_bag_2 mgX12_wants lv_X12_128_12 (by decide) (sx_61 hT) (by omega) (c_X12_wants hT hR (by omega)) rfl rfl (by decide) ?_
  rw [hM.wants]
  refine pv_istore_5 (pc := 5) dX12_bag_5 (by decide) rfl ?_
  refine pv_iload_5 (pc := 7) dX12_bag_7 ?_
  refine pv_if_eq (pc := 9) (tgt := 19) dX12_bag_9 (by decide) (fun h9 => ?_) (fun h9 => ?_)
  · have hs : vp_in s 8 := (w_wants_0 h9).1
    have esz : I 69 s.toNatClampNeg = J 8 s.toNatClampNeg := (mh _ (pv_in_lt hs).2.2.1).2.2.1
    refine pv_iload_2 (pc := 19) dX12_bag_19 ?_
    refine pv_if_ge (pc := 20) (tgt := 30) dX12_bag_20 (by decide) (fun h20 => ?_) (fun h20 => ?_)
    · refine pv_iload_2 (pc := 30) dX12_bag_30 ?_
      refine pv_aload_0 (pc := 31) dX12_bag_31 ?_
      refine pv_getR (pc := 32) dX12_bag_32 fg_X12_42_12 rfl (by decide) (sx_61 hT) (rx_61_14 hR) ?_
      refine pv_iload_1 (pc := 35) dX12_bag_35 ?_
      refine pv_ialoadj (pc := 36) dX12_bag_36 (sx_69 hT) rfl hs ?_
      refine pv_iconst (pc := 37) (v := 2) dX12_bag_37 (by decide) ?_
      refine pv_idiv (pc := 38) dX12_bag_38 (by decide) ?_
      refine pv_icmp_le (pc := 39) (tgt := 49) dX12_bag_39 (by decide) (fun h39 => ?_) (fun h39 => ?_)
      · refine pv_iload_2 (pc := 49) dX12_bag_49 ?_
        refine pv_iconst (pc := 50) (v := 1) dX12_bag_50 (by decide) ?_
        refine pv_icmp_lt (pc := 51) (tgt := 68) dX12_bag_51 (by decide) (fun h51 => ?_) (fun h51 => ?_)
        · refine pv_aload_0 (pc := 68) dX12_bag_68 ?_
          refine pv_bipush (pc := 69) (v := (-6)) dX12_bag_69 (by decide) ?_
          refine pv_callV1 (pc := 71) dX12_bag_71 mgX12_noTen lv_X12_292_12 (by decide) (sx_61 hT) (by omega) (c_X12_noTen (k := 6) hT hR (by decide) (by unfold vp_in; decide)) rfl rfl (by decide) ?_
          refine pv_iret (pc := 74) dX12_bag_74 rfl rfl ?_
          first
            | (have f1 := h51; refine qM.ref hM k_l6 ?_; unfold S_bag; rw [if_pos h9, if_neg h20, if_neg (by rw [← esz]; exact h39), if_pos (Or.inl f1)]; done)
            | (have f1 := h56; refine qM.ref hM k_l6 ?_; unfold S_bag; rw [if_pos h9, if_neg h20, if_neg (by rw [← esz]; exact h39), if_pos (Or.inr (Or.inl f1))]; done)
            | (have f1 := h60; refine qM.ref hM k_l6 ?_; unfold S_bag; rw [if_pos h9, if_neg h20, if_neg (by rw [← esz]; exact h39), if_pos (Or.inr (Or.inr (Or.inl f1)))]; done)
            | (have f1 := h65; refine qM.ref hM k_l6 ?_; unfold S_bag; rw [if_pos h9, if_neg h20, if_neg (by rw [← esz]; exact h39), if_pos (Or.inr (Or.inr (Or.inr f1)))]; done)
        · refine pv_iload_2 (pc := 54) dX12_bag_54 ?_
          refine pv_iconst (pc := 55) (v := 4) dX12_bag_55 (by decide) ?_
          refine pv_icmp_gt (pc := 56) (tgt := 68) dX12_bag_56 (by decide) (fun h56 => ?_) (fun h56 => ?_)
          · refine pv_aload_0 (pc := 68) dX12_bag_68 ?_
            refine pv_bipush (pc := 69) (v := (-6)) dX12_bag_69 (by decide) ?_
            refine pv_callV1 (pc := 71) dX12_bag_71 mgX12_noTen lv_X12_292_12 (by decide) (sx_61 hT) (by omega) (c_X12_noTen (k := 6) hT hR (by decide) (by unfold vp_in; decide)) rfl rfl (by decide) ?_
            refine pv_iret (pc := 74) dX12_bag_74 rfl rfl ?_
            first
              | (have f1 := h51; refine qM.ref hM k_l6 ?_; unfold S_bag; rw [if_pos h9, if_neg h20, if_neg (by rw [← esz]; exact h39), if_pos (Or.inl f1)]; done)
              | (have f1 := h56; refine qM.ref hM k_l6 ?_; unfold S_bag; rw [if_pos h9, if_neg h20, if_neg (by rw [← esz]; exact h39), if_pos (Or.inr (Or.inl f1))]; done)
              | (have f1 := h60; refine qM.ref hM k_l6 ?_; unfold S_bag; rw [if_pos h9, if_neg h20, if_neg (by rw [← esz]; exact h39), if_pos (Or.inr (Or.inr (Or.inl f1)))]; done)
              | (have f1 := h65; refine qM.ref hM k_l6 ?_; unfold S_bag; rw [if_pos h9, if_neg h20, if_neg (by rw [← esz]; exact h39), if_pos (Or.inr (Or.inr (Or.inr f1)))]; done)
          · refine pv_iload_3 (pc := 59) dX12_bag_59 ?_
            refine pv_if_lt (pc := 60) (tgt := 68) dX12_bag_60 (by decide) (fun h60 => ?_) (fun h60 => ?_)
            · refine pv_aload_0 (pc := 68) dX12_bag_68 ?_
              refine pv_bipush (pc := 69) (v := (-6)) dX12_bag_69 (by decide) ?_
              refine pv_callV1 (pc := 71) dX12_bag_71 mgX12_noTen lv_X12_292_12 (by decide) (sx_61 hT) (by omega) (c_X12_noTen (k := 6) hT hR (by decide) (by unfold vp_in; decide)) rfl rfl (by decide) ?_
              refine pv_iret (pc := 74) dX12_bag_74 rfl rfl ?_
              first
                | (have f1 := h51; refine qM.ref hM k_l6 ?_; unfold S_bag; rw [if_pos h9, if_neg h20, if_neg (by rw [← esz]; exact h39), if_pos (Or.inl f1)]; done)
                | (have f1 := h56; refine qM.ref hM k_l6 ?_; unfold S_bag; rw [if_pos h9, if_neg h20, if_neg (by rw [← esz]; exact h39), if_pos (Or.inr (Or.inl f1))]; done)
                | (have f1 := h60; refine qM.ref hM k_l6 ?_; unfold S_bag; rw [if_pos h9, if_neg h20, if_neg (by rw [← esz]; exact h39), if_pos (Or.inr (Or.inr (Or.inl f1)))]; done)
                | (have f1 := h65; refine qM.ref hM k_l6 ?_; unfold S_bag; rw [if_pos h9, if_neg h20, if_neg (by rw [← esz]; exact h39), if_pos (Or.inr (Or.inr (Or.inr f1)))]; done)
            · refine pv_iload_3 (pc := 63) dX12_bag_63 ?_
              refine pv_iload_2 (pc := 64) dX12_bag_64 ?_
              refine pv_icmp_lt (pc := 65) (tgt := 75) dX12_bag_65 (by decide) (fun h65 => ?_) (fun h65 => ?_)
              · refine pv_iconst (pc := 75) (v := 0) dX12_bag_75 (by decide) ?_
                refine pv_istore_6 (pc := 76) dX12_bag_76 (by decide) rfl ?_
                have g39 : ¬ J 8 s.toNatClampNeg / 2 < n := by rw [← esz]; exact h39
                have hng : ¬ (n < 1 ∨ 4 < n ∨ k < 0 ∨ ¬ k < n) := fun r => by rcases r with r | r | r | r; exact h51 r; exact h56 r; exact h60 r; exact r h65
                have hnl := i_lit n
                have q1 := h51
                have q2 := h56
                simp only [i_lt, (show (1 : Int32).toInt = 1 from by decide), (show (4 : Int32).toInt = 4 from by decide)] at q1 q2
                refine l_bgN hT hR hM hs (by omega) (by omega) (by omega) (fun hyes l6 => ?_) (fun hno => ?_) n.toNatClampNeg 0 (by omega) (fun q hq => absurd hq (Nat.not_lt_zero q))
                · skip
                  refine pv_aload_0 (pc := 136) dX12_bag_136 ?_
                  refine pv_iload_2 (pc := 137) dX12_bag_137 ?_
                  refine pv_putI (pc := 138) dX12_bag_138 fl_X12_377_12 (fun q => by cases q) ⟨rfl, rfl, rfl⟩ (by decide) (sx_61 hT) ?_
                  refine pv_aload_0 (pc := 141) dX12_bag_141 ?_
                  refine pv_iload_3 (pc := 142) dX12_bag_142 ?_
                  refine pv_putI (pc := 143) dX12_bag_143 fl_X12_380_12 (fun q => by cases q) ⟨rfl, rfl, rfl⟩ (by decide) (sx_61 hT) ?_
                  refine pv_iconst (pc := 146) (v := 0) dX12_bag_146 (by decide) ?_
                  refine pv_istore_6 (pc := 147) dX12_bag_147 (by decide) rfl ?_
                  exact l_bag hT hR hM hs (by omega) (by omega) (by omega) 8 0 _ _ _ ((kS.rf.uI 61 56 _ (by decide)).uI 61 57 _ (by decide)) rfl rfl rfl (by unfold S_bag; rw [if_pos h9, if_neg h20, if_neg g39, if_neg hng, if_pos ((w_bgN_iff _ _).mpr hyes)])
                · refine qM.ref hM k_l6 ?_
                  unfold S_bag; rw [if_pos h9, if_neg h20, if_neg g39, if_neg hng, if_neg (fun g => hno ((w_bgN_iff _ _).mp g))]
              · refine pv_aload_0 (pc := 68) dX12_bag_68 ?_
                refine pv_bipush (pc := 69) (v := (-6)) dX12_bag_69 (by decide) ?_
                refine pv_callV1 (pc := 71) dX12_bag_71 mgX12_noTen lv_X12_292_12 (by decide) (sx_61 hT) (by omega) (c_X12_noTen (k := 6) hT hR (by decide) (by unfold vp_in; decide)) rfl rfl (by decide) ?_
                refine pv_iret (pc := 74) dX12_bag_74 rfl rfl ?_
                first
                  | (have f1 := h51; refine qM.ref hM k_l6 ?_; unfold S_bag; rw [if_pos h9, if_neg h20, if_neg (by rw [← esz]; exact h39), if_pos (Or.inl f1)]; done)
                  | (have f1 := h56; refine qM.ref hM k_l6 ?_; unfold S_bag; rw [if_pos h9, if_neg h20, if_neg (by rw [← esz]; exact h39), if_pos (Or.inr (Or.inl f1))]; done)
                  | (have f1 := h60; refine qM.ref hM k_l6 ?_; unfold S_bag; rw [if_pos h9, if_neg h20, if_neg (by rw [← esz]; exact h39), if_pos (Or.inr (Or.inr (Or.inl f1)))]; done)
                  | (have f1 := h65; refine qM.ref hM k_l6 ?_; unfold S_bag; rw [if_pos h9, if_neg h20, if_neg (by rw [← esz]; exact h39), if_pos (Or.inr (Or.inr (Or.inr f1)))]; done)
      · refine pv_aload_0 (pc := 42) dX12_bag_42 ?_
        refine pv_bipush (pc := 43) (v := (-5)) dX12_bag_43 (by decide) ?_
        refine pv_callV1 (pc := 45) dX12_bag_45 mgX12_noTen lv_X12_292_12 (by decide) (sx_61 hT) (by omega) (c_X12_noTen (k := 5) hT hR (by decide) (by unfold vp_in; decide)) rfl rfl (by decide) ?_
        refine pv_iret (pc := 48) dX12_bag_48 rfl rfl ?_
        refine qM.ref hM k_lt5b ?_; unfold S_bag; rw [if_pos h9, if_neg h20, if_pos (by rw [← esz]; exact h39)]
    · refine pv_aload_0 (pc := 23) dX12_bag_23 ?_
      refine pv_bipush (pc := 24) (v := (-4)) dX12_bag_24 (by decide) ?_
      refine pv_callV1 (pc := 26) dX12_bag_26 mgX12_noTen lv_X12_292_12 (by decide) (sx_61 hT) (by omega) (c_X12_noTen (k := 4) hT hR (by decide) (by unfold vp_in; decide)) rfl rfl (by decide) ?_
      refine pv_iret (pc := 29) dX12_bag_29 rfl rfl ?_
      refine qM.ref hM (by decide : 4 < 8) ?_; unfold S_bag; rw [if_pos h9, if_pos h20]
  · refine pv_aload_0 (pc := 12) dX12_bag_12 ?_
    refine pv_iload_5 (pc := 13) dX12_bag_13 ?_
    refine pv_callV1 (pc := 15) dX12_bag_15 mgX12_noTen lv_X12_292_12 (by decide) (sx_61 hT) (by omega) (c_X12_noTen (k := (-(w_wants J s)).toNatClampNeg) hT hR rfl (w_wants_in J s)) rfl rfl (by decide) ?_
    refine pv_iret (pc := 18) dX12_bag_18 rfl rfl ?_
    refine qM.ref hM (w_wants_n J s) ?_; unfold S_bag; rw [if_neg h9]

