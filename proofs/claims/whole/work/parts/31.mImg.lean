/-! what is kept and brought back -/
def m_cy (I : pv_I) (ds fd sr fs k : Nat) : pv_I := fun x j => if x = ds ∧ fd ≤ j ∧ j < fd + k then I sr (fs + (j - fd)) else I x j
theorem m_cy_0 (I : pv_I) (ds fd sr fs : Nat) : m_cy I ds fd sr fs 0 = I := by
  funext x j
  unfold m_cy
  rw [if_neg (by omega)]
theorem m_cy_s (I : pv_I) {ds fd sr fs k i j : Nat} (h : sr ≠ ds) (hi : i = fd + k) (hj : j = fs + k) : pv_u (m_cy I ds fd sr fs k) ds i (m_cy I ds fd sr fs k sr j) = m_cy I ds fd sr fs (k + 1) := by
  subst hi hj
  funext x y
  rw [pv_u_app]
  by_cases e : x = ds ∧ y = fd + k
  · rw [if_pos e]
    show (if sr = ds ∧ fd ≤ fs + k ∧ fs + k < fd + k then I sr (fs + (fs + k - fd)) else I sr (fs + k)) = if x = ds ∧ fd ≤ y ∧ y < fd + (k + 1) then I sr (fs + (y - fd)) else I x y
    rw [if_neg (fun q => h q.1), if_pos (by omega), show fs + (y - fd) = fs + k by omega]
  · rw [if_neg e]
    show (if x = ds ∧ fd ≤ y ∧ y < fd + k then I sr (fs + (y - fd)) else I x y) = if x = ds ∧ fd ≤ y ∧ y < fd + (k + 1) then I sr (fs + (y - fd)) else I x y
    by_cases g : x = ds ∧ fd ≤ y ∧ y < fd + k
    · rw [if_pos g, if_pos (by omega)]
    · rw [if_neg g, if_neg (by omega)]
theorem m_cy_ne (I : pv_I) {ds : Nat} (fd sr fs k : Nat) {x : Nat} (h : x ≠ ds) : m_cy I ds fd sr fs k x = I x := by
  funext j
  unfold m_cy
  rw [if_neg (fun q => h q.1)]
theorem m_cy_in (I : pv_I) {ds fd sr fs k j : Nat} (h : fd ≤ j ∧ j < fd + k) : m_cy I ds fd sr fs k ds j = I sr (fs + (j - fd)) := by
  unfold m_cy
  rw [if_pos ⟨rfl, h⟩]
theorem m_cy_out (I : pv_I) {ds fd sr fs k j : Nat} (h : ¬ (fd ≤ j ∧ j < fd + k)) : m_cy I ds fd sr fs k ds j = I ds j := by
  unfold m_cy
  rw [if_neg (fun q => h q.2)]
theorem i_add (a b : Nat) : Int32.ofNat a + Int32.ofNat b = Int32.ofNat (a + b) := (Int32.ofNat_add a b).symm
theorem i_ltn {a b : Nat} (ha : a < 2147483648) (hb : b < 2147483648) : Int32.ofNat a < Int32.ofNat b ↔ a < b := by rw [i_lt, i_of ha, i_of hb]; omega

set_option maxRecDepth 100000 in
set_option maxHeartbeats 4000000 in
theorem l_kp0 {G : pv_G} {d : Nat} {t : pv_T} {I : pv_I} {L : pv_L} {Rf : pv_R} {a b na nb n f : Nat} (ha16 : 16 ≤ a) (hb16 : 16 ≤ b) (ha : t.1 a = some (.inl (.int, na))) (hb : t.1 b = some (.inl (.int, nb))) (hab : a ≠ b) (hn : n ≤ na) (hf : f + n ≤ nb) (hna : na < 2147483648) (hnb : nb < 2147483648) : ∀ (m k : Nat), k + m = n →
    pv_V G mX12_keeps d 0 0 (pv_is (some (.int (Int32.ofNat (f + n)))) t (m_cy I b f a 0 n) L Rf) 0 0 3 [.ref 61, .ref a, .int (Int32.ofNat n), .ref b, .int (Int32.ofNat f), .int 0, .int (Int32.ofNat k)] [] t (m_cy I b f a 0 k) L Rf := by
  intro m
  induction m with
  | zero =>
    intro k hk
    refine pv_iload_6 (pc := 3) dX12_keeps_3 ?_
    refine pv_iload_2 (pc := 5) dX12_keeps_5 ?_
    refine pv_icmp_ge (pc := 6) (tgt := 45) dX12_keeps_6 (by decide) (fun h6 => ?_) (fun h6 => absurd h6 (by rw [i_ltn (by omega) (by omega)]; omega))
    refine pv_iload_4 (pc := 45) dX12_keeps_45 ?_
    refine pv_iload_2 (pc := 47) dX12_keeps_47 ?_
    refine pv_iadd (pc := 48) dX12_keeps_48 ?_
    refine pv_iret (pc := 49) dX12_keeps_49 rfl rfl ?_
    rw [i_add, show k = n by omega]
    exact ⟨rfl, rfl, rfl, rfl, rfl⟩
  | succ m ih =>
    intro k hk
    refine pv_iload_6 (pc := 3) dX12_keeps_3 ?_
    refine pv_iload_2 (pc := 5) dX12_keeps_5 ?_
    refine pv_icmp_ge (pc := 6) (tgt := 45) dX12_keeps_6 (by decide) (fun h6 => absurd h6 (by rw [i_ltn (by omega) (by omega)]; omega)) (fun h6 => ?_)
    refine pv_iload_5 (pc := 9) dX12_keeps_9 ?_
    refine pv_if_eq (pc := 11) (tgt := 28) dX12_keeps_11 (by decide) (fun _ => ?_) (fun q => absurd q (by decide))
    refine pv_aload_3 (pc := 28) dX12_keeps_28 ?_
    refine pv_iload_4 (pc := 29) dX12_keeps_29 ?_
    refine pv_iload_6 (pc := 31) dX12_keeps_31 ?_
    refine pv_iadd (pc := 33) dX12_keeps_33 ?_
    refine pv_aload_1 (pc := 34) dX12_keeps_34 ?_
    refine pv_iload_6 (pc := 35) dX12_keeps_35 ?_
    refine pv_ialoadj (pc := 37) dX12_keeps_37 ha rfl (i_in (k := k) (by omega) (by omega)) ?_
    refine pv_iastorej (pc := 38) dX12_keeps_38 hb16 hb rfl (by rw [i_add]; exact i_in (k := f + k) (by omega) (by omega)) ?_
    refine pv_iinc_6 (pc := 39) (v := _ + 1) dX12_keeps_39 rfl (by decide) rfl ?_
    refine pv_goto (pc := 42) (tgt := 3) dX12_keeps_42 (by decide) ?_
    rw [i_inc, i_add, i_nat (k := f + k) (by omega), i_nat (k := k) (by omega), m_cy_s I (hab) (rfl) ((Nat.zero_add k).symm)]
    exact ih (k + 1) (by omega)

set_option maxRecDepth 100000 in
set_option maxHeartbeats 4000000 in
theorem c_X12_keeps0 {G : pv_G} {d : Nat} {t : pv_T} {I : pv_I} {L : pv_L} {Rf : pv_R} {a b na nb n f : Nat} (ha16 : 16 ≤ a) (hb16 : 16 ≤ b) (ha : t.1 a = some (.inl (.int, na))) (hb : t.1 b = some (.inl (.int, nb))) (hab : a ≠ b) (hn : n ≤ na) (hf : f + n ≤ nb) (hna : na < 2147483648) (hnb : nb < 2147483648) : pv_Mt G mX12_keeps d 0 0 [.ref 61, .ref a, .int (Int32.ofNat n), .ref b, .int (Int32.ofNat f), .int 0] t I L Rf (pv_is (some (.int (Int32.ofNat (f + n)))) t (m_cy I b f a 0 n) L Rf) := by
  refine pv_mt mgX12_keeps.2.2.2.2.2 [.ref 61, .ref a, .int (Int32.ofNat n), .ref b, .int (Int32.ofNat f), .int 0, .retAddr 0] rfl (Nat.le_of_ble_eq_true rfl) ?_
  refine pv_iconst (pc := 0) (v := 0) dX12_keeps_0 (by decide) ?_
  refine pv_istore_6 (pc := 1) dX12_keeps_1 (by decide) rfl ?_
  have h := l_kp0 (G := G) (d := d) (I := I) (L := L) (Rf := Rf) ha16 hb16 ha hb hab hn hf hna hnb n 0 (by omega)
  rw [m_cy_0] at h
  exact h

set_option maxRecDepth 100000 in
set_option maxHeartbeats 4000000 in
theorem l_kp1 {G : pv_G} {d : Nat} {t : pv_T} {I : pv_I} {L : pv_L} {Rf : pv_R} {a b na nb n f : Nat} (ha16 : 16 ≤ a) (hb16 : 16 ≤ b) (ha : t.1 a = some (.inl (.int, na))) (hb : t.1 b = some (.inl (.int, nb))) (hab : a ≠ b) (hn : n ≤ na) (hf : f + n ≤ nb) (hna : na < 2147483648) (hnb : nb < 2147483648) : ∀ (m k : Nat), k + m = n →
    pv_V G mX12_keeps d 0 0 (pv_is (some (.int (Int32.ofNat (f + n)))) t (m_cy I a 0 b f n) L Rf) 0 0 3 [.ref 61, .ref a, .int (Int32.ofNat n), .ref b, .int (Int32.ofNat f), .int 1, .int (Int32.ofNat k)] [] t (m_cy I a 0 b f k) L Rf := by
  intro m
  induction m with
  | zero =>
    intro k hk
    refine pv_iload_6 (pc := 3) dX12_keeps_3 ?_
    refine pv_iload_2 (pc := 5) dX12_keeps_5 ?_
    refine pv_icmp_ge (pc := 6) (tgt := 45) dX12_keeps_6 (by decide) (fun h6 => ?_) (fun h6 => absurd h6 (by rw [i_ltn (by omega) (by omega)]; omega))
    refine pv_iload_4 (pc := 45) dX12_keeps_45 ?_
    refine pv_iload_2 (pc := 47) dX12_keeps_47 ?_
    refine pv_iadd (pc := 48) dX12_keeps_48 ?_
    refine pv_iret (pc := 49) dX12_keeps_49 rfl rfl ?_
    rw [i_add, show k = n by omega]
    exact ⟨rfl, rfl, rfl, rfl, rfl⟩
  | succ m ih =>
    intro k hk
    refine pv_iload_6 (pc := 3) dX12_keeps_3 ?_
    refine pv_iload_2 (pc := 5) dX12_keeps_5 ?_
    refine pv_icmp_ge (pc := 6) (tgt := 45) dX12_keeps_6 (by decide) (fun h6 => absurd h6 (by rw [i_ltn (by omega) (by omega)]; omega)) (fun h6 => ?_)
    refine pv_iload_5 (pc := 9) dX12_keeps_9 ?_
    refine pv_if_eq (pc := 11) (tgt := 28) dX12_keeps_11 (by decide) (fun q => absurd q (by decide)) (fun _ => ?_)
    refine pv_aload_1 (pc := 14) dX12_keeps_14 ?_
    refine pv_iload_6 (pc := 15) dX12_keeps_15 ?_
    refine pv_aload_3 (pc := 17) dX12_keeps_17 ?_
    refine pv_iload_4 (pc := 18) dX12_keeps_18 ?_
    refine pv_iload_6 (pc := 20) dX12_keeps_20 ?_
    refine pv_iadd (pc := 22) dX12_keeps_22 ?_
    refine pv_ialoadj (pc := 23) dX12_keeps_23 hb rfl (by rw [i_add]; exact i_in (k := f + k) (by omega) (by omega)) ?_
    refine pv_iastorej (pc := 24) dX12_keeps_24 ha16 ha rfl (i_in (k := k) (by omega) (by omega)) ?_
    refine pv_goto (pc := 25) (tgt := 39) dX12_keeps_25 (by decide) ?_
    refine pv_iinc_6 (pc := 39) (v := _ + 1) dX12_keeps_39 rfl (by decide) rfl ?_
    refine pv_goto (pc := 42) (tgt := 3) dX12_keeps_42 (by decide) ?_
    rw [i_inc, i_add, i_nat (k := f + k) (by omega), i_nat (k := k) (by omega), m_cy_s I (Ne.symm hab) ((Nat.zero_add k).symm) (rfl)]
    exact ih (k + 1) (by omega)

set_option maxRecDepth 100000 in
set_option maxHeartbeats 4000000 in
theorem c_X12_keeps1 {G : pv_G} {d : Nat} {t : pv_T} {I : pv_I} {L : pv_L} {Rf : pv_R} {a b na nb n f : Nat} (ha16 : 16 ≤ a) (hb16 : 16 ≤ b) (ha : t.1 a = some (.inl (.int, na))) (hb : t.1 b = some (.inl (.int, nb))) (hab : a ≠ b) (hn : n ≤ na) (hf : f + n ≤ nb) (hna : na < 2147483648) (hnb : nb < 2147483648) : pv_Mt G mX12_keeps d 0 0 [.ref 61, .ref a, .int (Int32.ofNat n), .ref b, .int (Int32.ofNat f), .int 1] t I L Rf (pv_is (some (.int (Int32.ofNat (f + n)))) t (m_cy I a 0 b f n) L Rf) := by
  refine pv_mt mgX12_keeps.2.2.2.2.2 [.ref 61, .ref a, .int (Int32.ofNat n), .ref b, .int (Int32.ofNat f), .int 1, .retAddr 0] rfl (Nat.le_of_ble_eq_true rfl) ?_
  refine pv_iconst (pc := 0) (v := 0) dX12_keeps_0 (by decide) ?_
  refine pv_istore_6 (pc := 1) dX12_keeps_1 (by decide) rfl ?_
  have h := l_kp1 (G := G) (d := d) (I := I) (L := L) (Rf := Rf) ha16 hb16 ha hb hab hn hf hna hnb n 0 (by omega)
  rw [m_cy_0] at h
  exact h

def m_al0 (I : pv_I) (b : Nat) : pv_I := pv_u (pv_u (pv_u (pv_u (m_cy (m_cy (m_cy (m_cy I b 0 63 0 8) b 8 64 0 8) b 16 65 0 8) b 24 66 0 4) b 28 (I 61 0)) b 29 (I 61 1)) b 30 (I 61 2)) b 31 (I 61 3)
set_option maxRecDepth 100000 in
set_option maxHeartbeats 4000000 in
theorem c_X12_all0 {G : pv_G} {d : Nat} {t : pv_T} {I : pv_I} {L : pv_L} {Rf : pv_R} {b l : Nat} (hT : sh_ok t) (hR : rf_ok Rf) (hb : t.1 b = some (.inl (.int, 40))) (hl : t.1 l = some (.inl (.long, 2))) (hbb : 74 < b) (hll : 74 < l) (hd : 1 ≤ d) : pv_Mt G mX12_all d 0 0 [.ref 61, .ref b, .ref l, .int 0] t I L Rf (pv_is none t (m_al0 I b) (pv_u (pv_u L l 0 (L 61 5)) l 1 (L 61 6)) Rf) := by
  refine pv_mt mgX12_all.2.2.2.2.2 [.ref 61, .ref b, .ref l, .int 0, .retAddr 0] rfl (Nat.le_of_ble_eq_true rfl) ?_
  have hb16 : 16 ≤ b := by omega
  have hl16 : 16 ≤ l := by omega
  refine pv_aload_0 (pc := 0) dX12_all_0 ?_
  refine pv_aload_0 (pc := 1) dX12_all_1 ?_
  refine pv_getR (pc := 2) dX12_all_2 fg_X12_24_12 rfl (by decide) (sx_61 hT) (rx_61_8 hR) ?_
  refine pv_bipush (pc := 5) (v := 8) dX12_all_5 (by decide) ?_
  refine pv_aload_1 (pc := 7) dX12_all_7 ?_
  refine pv_iconst (pc := 8) (v := 0) dX12_all_8 (by decide) ?_
  refine pv_iload_3 (pc := 9) dX12_all_9 ?_
  refine pv_callV1 (pc := 10) dX12_all_10 mgX12_keeps lv_X12_209_12 (by decide) (sx_61 hT) (by omega) (c_X12_keeps0 (a := 63) (b := b) (n := 8) (f := 0) (by decide) hb16 (sx_63 hT) hb (by omega) (by decide) (by decide) (by decide) (by decide)) rfl rfl (by decide) ?_
  refine pv_topv (y := 8) (by decide) ?_
  refine pv_istore_4 (pc := 13) dX12_all_13 (by decide) rfl ?_
  refine pv_aload_0 (pc := 15) dX12_all_15 ?_
  refine pv_aload_0 (pc := 16) dX12_all_16 ?_
  refine pv_getR (pc := 17) dX12_all_17 fg_X12_27_12 rfl (by decide) (sx_61 hT) (rx_61_9 hR) ?_
  refine pv_bipush (pc := 20) (v := 8) dX12_all_20 (by decide) ?_
  refine pv_aload_1 (pc := 22) dX12_all_22 ?_
  refine pv_iload_4 (pc := 23) dX12_all_23 ?_
  refine pv_iload_3 (pc := 25) dX12_all_25 ?_
  refine pv_callV1 (pc := 26) dX12_all_26 mgX12_keeps lv_X12_209_12 (by decide) (sx_61 hT) (by omega) (c_X12_keeps0 (a := 64) (b := b) (n := 8) (f := 8) (by decide) hb16 (sx_64 hT) hb (by omega) (by decide) (by decide) (by decide) (by decide)) rfl rfl (by decide) ?_
  refine pv_topv (y := 16) (by decide) ?_
  refine pv_istore_4 (pc := 29) dX12_all_29 (by decide) rfl ?_
  refine pv_aload_0 (pc := 31) dX12_all_31 ?_
  refine pv_aload_0 (pc := 32) dX12_all_32 ?_
  refine pv_getR (pc := 33) dX12_all_33 fg_X12_30_12 rfl (by decide) (sx_61 hT) (rx_61_10 hR) ?_
  refine pv_bipush (pc := 36) (v := 8) dX12_all_36 (by decide) ?_
  refine pv_aload_1 (pc := 38) dX12_all_38 ?_
  refine pv_iload_4 (pc := 39) dX12_all_39 ?_
  refine pv_iload_3 (pc := 41) dX12_all_41 ?_
  refine pv_callV1 (pc := 42) dX12_all_42 mgX12_keeps lv_X12_209_12 (by decide) (sx_61 hT) (by omega) (c_X12_keeps0 (a := 65) (b := b) (n := 8) (f := 16) (by decide) hb16 (sx_65 hT) hb (by omega) (by decide) (by decide) (by decide) (by decide)) rfl rfl (by decide) ?_
  refine pv_topv (y := 24) (by decide) ?_
  refine pv_istore_4 (pc := 45) dX12_all_45 (by decide) rfl ?_
  refine pv_aload_0 (pc := 47) dX12_all_47 ?_
  refine pv_aload_0 (pc := 48) dX12_all_48 ?_
  refine pv_getR (pc := 49) dX12_all_49 fg_X12_33_12 rfl (by decide) (sx_61 hT) (rx_61_11 hR) ?_
  refine pv_iconst (pc := 52) (v := 4) dX12_all_52 (by decide) ?_
  refine pv_aload_1 (pc := 53) dX12_all_53 ?_
  refine pv_iload_4 (pc := 54) dX12_all_54 ?_
  refine pv_iload_3 (pc := 56) dX12_all_56 ?_
  refine pv_callV1 (pc := 57) dX12_all_57 mgX12_keeps lv_X12_209_12 (by decide) (sx_61 hT) (by omega) (c_X12_keeps0 (a := 66) (b := b) (n := 4) (f := 24) (by decide) hb16 (sx_66 hT) hb (by omega) (by decide) (by decide) (by decide) (by decide)) rfl rfl (by decide) ?_
  refine pv_topv (y := 28) (by decide) ?_
  refine pv_istore_4 (pc := 60) dX12_all_60 (by decide) rfl ?_
  refine pv_iload_3 (pc := 62) dX12_all_62 ?_
  refine pv_if_eq (pc := 63) (tgt := 121) dX12_all_63 (by decide) (fun _ => ?_) (fun q => absurd q (by decide))
  refine pv_aload_1 (pc := 121) dX12_all_121 ?_
  refine pv_iload_4 (pc := 122) dX12_all_122 ?_
  refine pv_aload_0 (pc := 124) dX12_all_124 ?_
  refine pv_getI (pc := 125) dX12_all_125 fg_X12_108_12 rfl (by decide) (sx_61 hT) ?_
  refine pv_iastorej (pc := 128) dX12_all_128 hb16 hb (j := 28) (by decide) (by unfold vp_in; decide) ?_
  refine pv_aload_1 (pc := 129) dX12_all_129 ?_
  refine pv_iload_4 (pc := 130) dX12_all_130 ?_
  refine pv_iconst (pc := 132) (v := 1) dX12_all_132 (by decide) ?_
  refine pv_iadd (pc := 133) dX12_all_133 ?_
  refine pv_topv (y := 29) (by decide) ?_
  refine pv_aload_0 (pc := 134) dX12_all_134 ?_
  refine pv_getI (pc := 135) dX12_all_135 fg_X12_213_12 rfl (by decide) (sx_61 hT) ?_
  refine pv_iastorej (pc := 138) dX12_all_138 hb16 hb (j := 29) (by decide) (by unfold vp_in; decide) ?_
  refine pv_aload_1 (pc := 139) dX12_all_139 ?_
  refine pv_iload_4 (pc := 140) dX12_all_140 ?_
  refine pv_iconst (pc := 142) (v := 2) dX12_all_142 (by decide) ?_
  refine pv_iadd (pc := 143) dX12_all_143 ?_
  refine pv_topv (y := 30) (by decide) ?_
  refine pv_aload_0 (pc := 144) dX12_all_144 ?_
  refine pv_getI (pc := 145) dX12_all_145 fg_X12_216_12 rfl (by decide) (sx_61 hT) ?_
  refine pv_iastorej (pc := 148) dX12_all_148 hb16 hb (j := 30) (by decide) (by unfold vp_in; decide) ?_
  refine pv_aload_1 (pc := 149) dX12_all_149 ?_
  refine pv_iload_4 (pc := 150) dX12_all_150 ?_
  refine pv_iconst (pc := 152) (v := 3) dX12_all_152 (by decide) ?_
  refine pv_iadd (pc := 153) dX12_all_153 ?_
  refine pv_topv (y := 31) (by decide) ?_
  refine pv_aload_0 (pc := 154) dX12_all_154 ?_
  refine pv_getI (pc := 155) dX12_all_155 fg_X12_7_12 rfl (by decide) (sx_61 hT) ?_
  refine pv_iastorej (pc := 158) dX12_all_158 hb16 hb (j := 31) (by decide) (by unfold vp_in; decide) ?_
  refine pv_aload_2 (pc := 159) dX12_all_159 ?_
  refine pv_iconst (pc := 160) (v := 0) dX12_all_160 (by decide) ?_
  refine pv_aload_0 (pc := 161) dX12_all_161 ?_
  refine pv_getL (pc := 162) dX12_all_162 fg_X12_147_12 (by decide) (sx_61 hT) ?_
  refine pv_lastorej (pc := 165) dX12_all_165 hl16 hl (j := 0) (by decide) (by unfold vp_in; decide) ?_
  refine pv_aload_2 (pc := 166) dX12_all_166 ?_
  refine pv_iconst (pc := 167) (v := 1) dX12_all_167 (by decide) ?_
  refine pv_aload_0 (pc := 168) dX12_all_168 ?_
  refine pv_getL (pc := 169) dX12_all_169 fg_X12_16_12 (by decide) (sx_61 hT) ?_
  refine pv_lastorej (pc := 172) dX12_all_172 hl16 hl (j := 1) (by decide) (by unfold vp_in; decide) ?_
  refine pv_vret (pc := 173) dX12_all_173 rfl ?_
  have h61 : 61 ≠ b := by omega
  have h6l : 61 ≠ l := by omega
  refine ⟨rfl, rfl, ?_, ?_, rfl⟩
  · unfold m_al0
    simp only [pv_u_ne _ _ h61, m_cy_ne _ _ _ _ _ h61]
  · simp only [pv_u_ne _ _ h6l]

def m_al1 (I : pv_I) (b : Nat) : pv_I := pv_u (pv_u (pv_u (pv_u (m_cy (m_cy (m_cy (m_cy I 63 0 b 0 8) 64 0 b 8 8) 65 0 b 16 8) 66 0 b 24 4) 61 0 (I b 28)) 61 1 (I b 29)) 61 2 (I b 30)) 61 3 (I b 31)
set_option maxRecDepth 100000 in
set_option maxHeartbeats 4000000 in
theorem c_X12_all1 {G : pv_G} {d : Nat} {t : pv_T} {I : pv_I} {L : pv_L} {Rf : pv_R} {b l : Nat} (hT : sh_ok t) (hR : rf_ok Rf) (hb : t.1 b = some (.inl (.int, 40))) (hl : t.1 l = some (.inl (.long, 2))) (hbb : 74 < b) (hll : 74 < l) (hd : 1 ≤ d) : pv_Mt G mX12_all d 0 0 [.ref 61, .ref b, .ref l, .int 1] t I L Rf (pv_is none t (m_al1 I b) (m_PQ L (L l 0) (L l 1)) Rf) := by
  refine pv_mt mgX12_all.2.2.2.2.2 [.ref 61, .ref b, .ref l, .int 1, .retAddr 0] rfl (Nat.le_of_ble_eq_true rfl) ?_
  have hb16 : 16 ≤ b := by omega
  have hl16 : 16 ≤ l := by omega
  refine pv_aload_0 (pc := 0) dX12_all_0 ?_
  refine pv_aload_0 (pc := 1) dX12_all_1 ?_
  refine pv_getR (pc := 2) dX12_all_2 fg_X12_24_12 rfl (by decide) (sx_61 hT) (rx_61_8 hR) ?_
  refine pv_bipush (pc := 5) (v := 8) dX12_all_5 (by decide) ?_
  refine pv_aload_1 (pc := 7) dX12_all_7 ?_
  refine pv_iconst (pc := 8) (v := 0) dX12_all_8 (by decide) ?_
  refine pv_iload_3 (pc := 9) dX12_all_9 ?_
  refine pv_callV1 (pc := 10) dX12_all_10 mgX12_keeps lv_X12_209_12 (by decide) (sx_61 hT) (by omega) (c_X12_keeps1 (a := 63) (b := b) (n := 8) (f := 0) (by decide) hb16 (sx_63 hT) hb (by omega) (by decide) (by decide) (by decide) (by decide)) rfl rfl (by decide) ?_
  refine pv_topv (y := 8) (by decide) ?_
  refine pv_istore_4 (pc := 13) dX12_all_13 (by decide) rfl ?_
  refine pv_aload_0 (pc := 15) dX12_all_15 ?_
  refine pv_aload_0 (pc := 16) dX12_all_16 ?_
  refine pv_getR (pc := 17) dX12_all_17 fg_X12_27_12 rfl (by decide) (sx_61 hT) (rx_61_9 hR) ?_
  refine pv_bipush (pc := 20) (v := 8) dX12_all_20 (by decide) ?_
  refine pv_aload_1 (pc := 22) dX12_all_22 ?_
  refine pv_iload_4 (pc := 23) dX12_all_23 ?_
  refine pv_iload_3 (pc := 25) dX12_all_25 ?_
  refine pv_callV1 (pc := 26) dX12_all_26 mgX12_keeps lv_X12_209_12 (by decide) (sx_61 hT) (by omega) (c_X12_keeps1 (a := 64) (b := b) (n := 8) (f := 8) (by decide) hb16 (sx_64 hT) hb (by omega) (by decide) (by decide) (by decide) (by decide)) rfl rfl (by decide) ?_
  refine pv_topv (y := 16) (by decide) ?_
  refine pv_istore_4 (pc := 29) dX12_all_29 (by decide) rfl ?_
  refine pv_aload_0 (pc := 31) dX12_all_31 ?_
  refine pv_aload_0 (pc := 32) dX12_all_32 ?_
  refine pv_getR (pc := 33) dX12_all_33 fg_X12_30_12 rfl (by decide) (sx_61 hT) (rx_61_10 hR) ?_
  refine pv_bipush (pc := 36) (v := 8) dX12_all_36 (by decide) ?_
  refine pv_aload_1 (pc := 38) dX12_all_38 ?_
  refine pv_iload_4 (pc := 39) dX12_all_39 ?_
  refine pv_iload_3 (pc := 41) dX12_all_41 ?_
  refine pv_callV1 (pc := 42) dX12_all_42 mgX12_keeps lv_X12_209_12 (by decide) (sx_61 hT) (by omega) (c_X12_keeps1 (a := 65) (b := b) (n := 8) (f := 16) (by decide) hb16 (sx_65 hT) hb (by omega) (by decide) (by decide) (by decide) (by decide)) rfl rfl (by decide) ?_
  refine pv_topv (y := 24) (by decide) ?_
  refine pv_istore_4 (pc := 45) dX12_all_45 (by decide) rfl ?_
  refine pv_aload_0 (pc := 47) dX12_all_47 ?_
  refine pv_aload_0 (pc := 48) dX12_all_48 ?_
  refine pv_getR (pc := 49) dX12_all_49 fg_X12_33_12 rfl (by decide) (sx_61 hT) (rx_61_11 hR) ?_
  refine pv_iconst (pc := 52) (v := 4) dX12_all_52 (by decide) ?_
  refine pv_aload_1 (pc := 53) dX12_all_53 ?_
  refine pv_iload_4 (pc := 54) dX12_all_54 ?_
  refine pv_iload_3 (pc := 56) dX12_all_56 ?_
  refine pv_callV1 (pc := 57) dX12_all_57 mgX12_keeps lv_X12_209_12 (by decide) (sx_61 hT) (by omega) (c_X12_keeps1 (a := 66) (b := b) (n := 4) (f := 24) (by decide) hb16 (sx_66 hT) hb (by omega) (by decide) (by decide) (by decide) (by decide)) rfl rfl (by decide) ?_
  refine pv_topv (y := 28) (by decide) ?_
  refine pv_istore_4 (pc := 60) dX12_all_60 (by decide) rfl ?_
  refine pv_iload_3 (pc := 62) dX12_all_62 ?_
  refine pv_if_eq (pc := 63) (tgt := 121) dX12_all_63 (by decide) (fun q => absurd q (by decide)) (fun _ => ?_)
  refine pv_aload_0 (pc := 66) dX12_all_66 ?_
  refine pv_aload_1 (pc := 67) dX12_all_67 ?_
  refine pv_iload_4 (pc := 68) dX12_all_68 ?_
  refine pv_ialoadj (pc := 70) dX12_all_70 hb (j := 28) (by decide) (by unfold vp_in; decide) ?_
  refine pv_putI (pc := 71) dX12_all_71 fl_X12_108_12 (fun q => by cases q) ⟨rfl, rfl, rfl⟩ (by decide) (sx_61 hT) ?_
  refine pv_aload_0 (pc := 74) dX12_all_74 ?_
  refine pv_aload_1 (pc := 75) dX12_all_75 ?_
  refine pv_iload_4 (pc := 76) dX12_all_76 ?_
  refine pv_iconst (pc := 78) (v := 1) dX12_all_78 (by decide) ?_
  refine pv_iadd (pc := 79) dX12_all_79 ?_
  refine pv_topv (y := 29) (by decide) ?_
  refine pv_ialoadj (pc := 80) dX12_all_80 hb (j := 29) (by decide) (by unfold vp_in; decide) ?_
  refine pv_putI (pc := 81) dX12_all_81 fl_X12_213_12 (fun q => by cases q) ⟨rfl, rfl, rfl⟩ (by decide) (sx_61 hT) ?_
  refine pv_aload_0 (pc := 84) dX12_all_84 ?_
  refine pv_aload_1 (pc := 85) dX12_all_85 ?_
  refine pv_iload_4 (pc := 86) dX12_all_86 ?_
  refine pv_iconst (pc := 88) (v := 2) dX12_all_88 (by decide) ?_
  refine pv_iadd (pc := 89) dX12_all_89 ?_
  refine pv_topv (y := 30) (by decide) ?_
  refine pv_ialoadj (pc := 90) dX12_all_90 hb (j := 30) (by decide) (by unfold vp_in; decide) ?_
  refine pv_putI (pc := 91) dX12_all_91 fl_X12_216_12 (fun q => by cases q) ⟨rfl, rfl, rfl⟩ (by decide) (sx_61 hT) ?_
  refine pv_aload_0 (pc := 94) dX12_all_94 ?_
  refine pv_aload_1 (pc := 95) dX12_all_95 ?_
  refine pv_iload_4 (pc := 96) dX12_all_96 ?_
  refine pv_iconst (pc := 98) (v := 3) dX12_all_98 (by decide) ?_
  refine pv_iadd (pc := 99) dX12_all_99 ?_
  refine pv_topv (y := 31) (by decide) ?_
  refine pv_ialoadj (pc := 100) dX12_all_100 hb (j := 31) (by decide) (by unfold vp_in; decide) ?_
  refine pv_putI (pc := 101) dX12_all_101 fl_X12_7_12 (fun q => by cases q) ⟨rfl, rfl, rfl⟩ (by decide) (sx_61 hT) ?_
  refine pv_aload_0 (pc := 104) dX12_all_104 ?_
  refine pv_aload_2 (pc := 105) dX12_all_105 ?_
  refine pv_iconst (pc := 106) (v := 0) dX12_all_106 (by decide) ?_
  refine pv_laloadj (pc := 107) dX12_all_107 hl16 hl (j := 0) (by decide) (by unfold vp_in; decide) ?_
  refine pv_putL (pc := 108) dX12_all_108 fl_X12_147_12 (fun q => by cases q) (by decide) (sx_61 hT) ?_
  refine pv_aload_0 (pc := 111) dX12_all_111 ?_
  refine pv_aload_2 (pc := 112) dX12_all_112 ?_
  refine pv_iconst (pc := 113) (v := 1) dX12_all_113 (by decide) ?_
  refine pv_laloadj (pc := 114) dX12_all_114 hl16 hl (j := 1) (by decide) (by unfold vp_in; decide) ?_
  refine pv_putL (pc := 115) dX12_all_115 fl_X12_16_12 (fun q => by cases q) (by decide) (sx_61 hT) ?_
  refine pv_goto (pc := 118) (tgt := 173) dX12_all_118 (by decide) ?_
  refine pv_vret (pc := 173) dX12_all_173 rfl ?_
  have h1 : b ≠ 61 := by omega
  have h3 : b ≠ 63 := by omega
  have h4 : b ≠ 64 := by omega
  have h5 : b ≠ 65 := by omega
  have h6 : b ≠ 66 := by omega
  have h6l : l ≠ 61 := by omega
  refine ⟨rfl, rfl, ?_, ?_, rfl⟩
  · unfold m_al1
    simp only [pv_u_ne _ _ h1, m_cy_ne _ _ _ _ _ h3, m_cy_ne _ _ _ _ _ h4, m_cy_ne _ _ _ _ _ h5, m_cy_ne _ _ _ _ _ h6]
  · unfold m_PQ
    simp only [pv_u_ne _ _ h6l]

theorem m_al0_at (I : pv_I) {b : Nat} (h : 74 < b) : (∀ i, i < 8 → m_al0 I b b i = I 63 i ∧ m_al0 I b b (8 + i) = I 64 i ∧ m_al0 I b b (16 + i) = I 65 i) ∧ (∀ c, c < 4 → m_al0 I b b (24 + c) = I 66 c) ∧ m_al0 I b b 28 = I 61 0 ∧ m_al0 I b b 29 = I 61 1 ∧ m_al0 I b b 30 = I 61 2 ∧ m_al0 I b b 31 = I 61 3 := by
  unfold m_al0
  refine ⟨fun i hi => ⟨?_, ?_, ?_⟩, fun c hc => ?_, ?_, ?_, ?_, ?_⟩
  · rw [pv_u_app, if_neg (by omega), pv_u_app, if_neg (by omega), pv_u_app, if_neg (by omega), pv_u_app, if_neg (by omega)]
    rw [m_cy_out _ (by omega), m_cy_out _ (by omega), m_cy_out _ (by omega), m_cy_in _ (by omega), show 0 + (i - 0) = i by omega]
  · rw [pv_u_app, if_neg (by omega), pv_u_app, if_neg (by omega), pv_u_app, if_neg (by omega), pv_u_app, if_neg (by omega)]
    rw [m_cy_out _ (by omega), m_cy_out _ (by omega), m_cy_in _ (by omega), m_cy_ne _ _ _ _ _ (show 64 ≠ b by omega), show 0 + (8 + i - 8) = i by omega]
  · rw [pv_u_app, if_neg (by omega), pv_u_app, if_neg (by omega), pv_u_app, if_neg (by omega), pv_u_app, if_neg (by omega)]
    rw [m_cy_out _ (by omega), m_cy_in _ (by omega), m_cy_ne _ _ _ _ _ (show 65 ≠ b by omega), m_cy_ne _ _ _ _ _ (show 65 ≠ b by omega), show 0 + (16 + i - 16) = i by omega]
  · rw [pv_u_app, if_neg (by omega), pv_u_app, if_neg (by omega), pv_u_app, if_neg (by omega), pv_u_app, if_neg (by omega)]
    rw [m_cy_in _ (by omega), m_cy_ne _ _ _ _ _ (show 66 ≠ b by omega), m_cy_ne _ _ _ _ _ (show 66 ≠ b by omega), m_cy_ne _ _ _ _ _ (show 66 ≠ b by omega), show 0 + (24 + c - 24) = c by omega]
  · simp [pv_u_app]
  · simp [pv_u_app]
  · simp [pv_u_app]
  · simp [pv_u_app]
theorem m_al0_ne (I : pv_I) {b x : Nat} (h : x ≠ b) : m_al0 I b x = I x := by
  unfold m_al0
  simp only [pv_u_ne _ _ h, m_cy_ne _ _ _ _ _ h]
def w_im (J : pv_I) : pv_I := pv_ur (pv_u (pv_u (pv_u (pv_u (pv_u J 0 6 1) 0 7 (J 0 0)) 0 8 (J 0 1)) 0 9 (J 0 2)) 0 10 (J 0 3)) 5 (J 4)
def S_image (J : pv_I) (K : pv_L) : SR := (.int (J 0 0), w_im J, pv_u (pv_u K 0 2 (K 0 0)) 0 3 (K 0 1))
theorem RM.im {J : pv_I} {K : pv_L} {I : pv_I} {L : pv_L} (hW : WF J K) (h : RM J K I L) : RM (w_im J) (pv_u (pv_u K 0 2 (K 0 0)) 0 3 (K 0 1)) (m_al0 (pv_u I 61 60 1) 77) (pv_u (pv_u L 79 0 (L 61 5)) 79 1 (L 61 6)) := by
  obtain ⟨⟨e0, e1, e2, e3, e4, e5, e6, e7, e8⟩, g2, g3, g4, g5, g6, g7, g8⟩ := h
  have w0 := hW.1
  have ea := m_al0_at (pv_u I 61 60 1) (b := 77) (by decide)
  have ne : ∀ x, x ≠ 77 → m_al0 (pv_u I 61 60 1) 77 x = pv_u I 61 60 1 x := fun x hx => m_al0_ne _ hx
  unfold RM RMi
  rw [ne 61 (by decide), ne 63 (by decide), ne 64 (by decide), ne 65 (by decide), ne 66 (by decide), ne 67 (by decide), ne 68 (by decide), ne 69 (by decide), ne 70 (by decide), ne 62 (by decide), ne 89 (by decide)]
  refine ⟨⟨e0, e1, e2, e3, e4, e5, rfl, e7, e8⟩, g2, g3, g4, g5, g6, fun s hs j hj => ?_, fun _ => ⟨fun i hi => ?_, fun c hc => ?_, ?_, ?_, ?_, ?_, e7, e8⟩⟩
  · rw [pv_u_app, pv_u_app, pv_u_app, pv_u_app, if_neg (by omega), if_neg (by omega), if_neg (by omega), if_neg (by omega)]
    exact g7 s hs j hj
  · have hi2 : (i : Int) < (J 0 0).toInt := hi
    obtain ⟨a1, a2, a3⟩ := ea.1 i (by omega)
    rw [a1, a2, a3]
    exact g2 i hi2
  · rw [ea.2.1 c hc]; exact g3 c hc
  · rw [ea.2.2.1]; exact e0
  · rw [ea.2.2.2.1]; exact e1
  · rw [ea.2.2.2.2.1]; exact e2
  · rw [ea.2.2.2.2.2]; exact e3
set_option maxRecDepth 100000 in
set_option maxHeartbeats 4000000 in
theorem c_X12_image {G : pv_G} {d : Nat} {J : pv_I} {K : pv_L}  {t : pv_T} {I : pv_I} {L : pv_L} {Rf : pv_R} (hT : sh_ok t) (hR : rf_ok Rf) (hW : WF J K) (hM : RM J K I L) (hd : 6 ≤ d) : pv_Mt G mX12_image d 0 0 [.ref 61] t I L Rf (qM (S_image J K) t I L Rf) := by
  refine pv_mt mgX12_image.2.2.2.2.2 [.ref 61] rfl (Nat.le_of_ble_eq_true rfl) ?_
  obtain ⟨⟨m0, m1, m2, m3, m4, m5, m6, m7, m8⟩, mf, mst, mh, mr, mt, mc, mi⟩ := id hM
  refine pv_aload_0 (pc := 0) dX12_image_0 ?_
  refine pv_iconst (pc := 1) (v := 1) dX12_image_1 (by decide) ?_
  refine pv_putI (pc := 2) dX12_image_2 fl_X12_408_12 (fun q => by cases q) ⟨rfl, rfl, rfl⟩ (by decide) (sx_61 hT) ?_
  refine pv_aload_0 (pc := 5) dX12_image_5 ?_
  refine pv_aload_0 (pc := 6) dX12_image_6 ?_
  refine pv_getR (pc := 7) dX12_image_7 fg_X12_67_12 rfl (by decide) (sx_61 hT) (rx_61_29 hR) ?_
  refine pv_aload_0 (pc := 10) dX12_image_10 ?_
  refine pv_getR (pc := 11) dX12_image_11 fg_X12_73_12 rfl (by decide) (sx_61 hT) (rx_61_31 hR) ?_
  refine pv_iconst (pc := 14) (v := 0) dX12_image_14 (by decide) ?_
  refine pv_callV0 (pc := 15) dX12_image_15 mgX12_all lv_X12_219_12 (by decide) (sx_61 hT) (by omega) (c_X12_all0 hT hR (sx_77 hT) (sx_79 hT) (by decide) (by decide) (by omega)) rfl rfl (by decide) ?_
  refine pv_aload_0 (pc := 18) dX12_image_18 ?_
  refine pv_getI (pc := 19) dX12_image_19 fg_X12_108_12 rfl (by decide) (sx_61 hT) ?_
  refine pv_iret (pc := 22) dX12_image_22 rfl rfl ?_
  refine ⟨congrArg (fun z => some (Value.int z)) ?_, rfl, rfl, hM.im hW, ?_⟩
  · have ne := m_al0_ne (pv_u I 61 60 1) (b := 77) (x := 61) (by decide)
    rw [ne]; exact m0
  · intro x hx
    refine ⟨?_, ?_⟩
    · rw [m_al0_ne _ (by omega), pv_u_ne _ _ (by omega)]
    · rw [pv_u_ne _ _ (by omega), pv_u_ne _ _ (by omega)]

def m_rs (I : pv_I) (k : Nat) : pv_I := fun x j => if x = 67 ∧ j < k ∧ I 67 j = 2 ∧ ¬ I 70 j < I 61 0 then 0 else I x j
theorem m_rs_0 (I : pv_I) : m_rs I 0 = I := by
  funext x j
  unfold m_rs
  rw [if_neg (by omega)]
theorem m_rs_s1 {I : pv_I} {k : Nat} (h : I 67 k = 2 ∧ ¬ I 70 k < I 61 0) : pv_u (m_rs I k) 67 k 0 = m_rs I (k + 1) := by
  funext x j
  rw [pv_u_app]
  unfold m_rs
  by_cases e : x = 67 ∧ j = k
  · rw [if_pos e, if_pos ⟨e.1, by omega, by rw [e.2]; exact h⟩]
  · rw [if_neg e]
    by_cases g : x = 67 ∧ j < k ∧ I 67 j = 2 ∧ ¬ I 70 j < I 61 0
    · rw [if_pos g, if_pos ⟨g.1, by omega, g.2.2⟩]
    · rw [if_neg g, if_neg (fun q => g ⟨q.1, by omega, q.2.2⟩)]
theorem m_rs_s0 {I : pv_I} {k : Nat} (h : ¬ (I 67 k = 2 ∧ ¬ I 70 k < I 61 0)) : m_rs I k = m_rs I (k + 1) := by
  funext x j
  unfold m_rs
  by_cases g : x = 67 ∧ j < k ∧ I 67 j = 2 ∧ ¬ I 70 j < I 61 0
  · rw [if_pos g, if_pos ⟨g.1, by omega, g.2.2⟩]
  · rw [if_neg g, if_neg]
    rintro ⟨q1, q2, q3⟩
    by_cases e : j = k
    · exact h (e ▸ q3)
    · exact g ⟨q1, by omega, q3⟩
theorem m_rs_at (I : pv_I) (k : Nat) : m_rs I k 67 k = I 67 k := by
  unfold m_rs
  rw [if_neg (by omega)]
theorem m_rs_ne (I : pv_I) (k : Nat) {x : Nat} (h : x ≠ 67) : m_rs I k x = I x := by
  funext j
  unfold m_rs
  rw [if_neg (fun q => h q.1)]
set_option maxRecDepth 100000 in
set_option maxHeartbeats 4000000 in
theorem l_rs {G : pv_G} {d : Nat} {Q : pv_Q} {t : pv_T} {I : pv_I} {L : pv_L} {Rf : pv_R} (hT : sh_ok t) (hR : rf_ok Rf) (hq : Q (some (.int (I 61 0))) t (m_rs I 8) L Rf) : ∀ (m k : Nat), k + m = 8 →
    pv_V G mX12_restore d 0 0 Q 0 0 29 [.ref 61, .int (Int32.ofNat k)] [] t (m_rs I k) L Rf := by
  intro m
  induction m with
  | zero =>
    intro k hk
    have hk8 : k = 8 := by omega
    refine pv_iload_1 (pc := 29) dX12_restore_29 ?_
    refine pv_bipush (pc := 30) (v := 8) dX12_restore_30 (by decide) ?_
    refine pv_icmp_ge (pc := 32) (tgt := 71) dX12_restore_32 (by decide) (fun h32 => ?_) (fun h32 => absurd h32 (by rw [i_lt, i_of (by omega)]; subst hk8; decide))
    refine pv_aload_0 (pc := 71) dX12_restore_71 ?_
    refine pv_getI (pc := 72) dX12_restore_72 fg_X12_108_12 rfl (by decide) (sx_61 hT) ?_
    refine pv_iret (pc := 75) dX12_restore_75 rfl rfl ?_
    subst hk8
    rw [m_rs_ne _ _ (show 61 ≠ 67 by decide)]
    exact hq
  | succ m ih =>
    intro k hk
    refine pv_iload_1 (pc := 29) dX12_restore_29 ?_
    refine pv_bipush (pc := 30) (v := 8) dX12_restore_30 (by decide) ?_
    refine pv_icmp_ge (pc := 32) (tgt := 71) dX12_restore_32 (by decide) (fun h32 => absurd h32 (by rw [i_lt, i_of (by omega), show (8 : Int32).toInt = 8 by decide]; omega)) (fun h32 => ?_)
    refine pv_aload_0 (pc := 35) dX12_restore_35 ?_
    refine pv_getR (pc := 36) dX12_restore_36 fg_X12_36_12 rfl (by decide) (sx_61 hT) (rx_61_12 hR) ?_
    refine pv_iload_1 (pc := 39) dX12_restore_39 ?_
    refine pv_ialoadj (pc := 40) dX12_restore_40 (sx_67 hT) rfl (i_in (k := k) (by omega) (by decide)) ?_
    refine pv_iconst (pc := 41) (v := 2) dX12_restore_41 (by decide) ?_
    refine pv_icmp_ne (pc := 42) (tgt := 65) dX12_restore_42 (by decide) (fun h42 => ?_) (fun h42 => ?_)
    · refine pv_iinc_1 (pc := 65) (v := _ + 1) dX12_restore_65 rfl (by decide) rfl ?_
      refine pv_goto (pc := 68) (tgt := 29) dX12_restore_68 (by decide) ?_
      simp only [m_rs_at, m_rs_ne _ _ (show 61 ≠ 67 by decide), m_rs_ne _ _ (show 70 ≠ 67 by decide), i_nat (k := k) (by omega)] at *
      first
        | (have f1 := h42; have f2 := h55; rw [i_inc, m_rs_s1 (by exact ⟨f1, f2⟩)]; exact ih (k + 1) (by omega))
        | (have f1 := h42; have f2 := h55; rw [i_inc, m_rs_s0 (fun q => q.2 f2)]; exact ih (k + 1) (by omega))
        | (have f1 := h42; rw [i_inc, m_rs_s0 (fun q => f1 q.1)]; exact ih (k + 1) (by omega))
    · refine pv_aload_0 (pc := 45) dX12_restore_45 ?_
      refine pv_getR (pc := 46) dX12_restore_46 fg_X12_45_12 rfl (by decide) (sx_61 hT) (rx_61_15 hR) ?_
      refine pv_iload_1 (pc := 49) dX12_restore_49 ?_
      refine pv_ialoadj (pc := 50) dX12_restore_50 (sx_70 hT) rfl (i_in (k := k) (by omega) (by decide)) ?_
      refine pv_aload_0 (pc := 51) dX12_restore_51 ?_
      refine pv_getI (pc := 52) dX12_restore_52 fg_X12_108_12 rfl (by decide) (sx_61 hT) ?_
      refine pv_icmp_lt (pc := 55) (tgt := 65) dX12_restore_55 (by decide) (fun h55 => ?_) (fun h55 => ?_)
      · refine pv_iinc_1 (pc := 65) (v := _ + 1) dX12_restore_65 rfl (by decide) rfl ?_
        refine pv_goto (pc := 68) (tgt := 29) dX12_restore_68 (by decide) ?_
        simp only [m_rs_at, m_rs_ne _ _ (show 61 ≠ 67 by decide), m_rs_ne _ _ (show 70 ≠ 67 by decide), i_nat (k := k) (by omega)] at *
        first
          | (have f1 := h42; have f2 := h55; rw [i_inc, m_rs_s1 (by exact ⟨f1, f2⟩)]; exact ih (k + 1) (by omega))
          | (have f1 := h42; have f2 := h55; rw [i_inc, m_rs_s0 (fun q => q.2 f2)]; exact ih (k + 1) (by omega))
          | (have f1 := h42; rw [i_inc, m_rs_s0 (fun q => f1 q.1)]; exact ih (k + 1) (by omega))
      · refine pv_aload_0 (pc := 58) dX12_restore_58 ?_
        refine pv_getR (pc := 59) dX12_restore_59 fg_X12_36_12 rfl (by decide) (sx_61 hT) (rx_61_12 hR) ?_
        refine pv_iload_1 (pc := 62) dX12_restore_62 ?_
        refine pv_iconst (pc := 63) (v := 0) dX12_restore_63 (by decide) ?_
        refine pv_iastorej (pc := 64) dX12_restore_64 (by decide) (sx_67 hT) rfl (i_in (k := k) (by omega) (by decide)) ?_
        refine pv_iinc_1 (pc := 65) (v := _ + 1) dX12_restore_65 rfl (by decide) rfl ?_
        refine pv_goto (pc := 68) (tgt := 29) dX12_restore_68 (by decide) ?_
        simp only [m_rs_at, m_rs_ne _ _ (show 61 ≠ 67 by decide), m_rs_ne _ _ (show 70 ≠ 67 by decide), i_nat (k := k) (by omega)] at *
        first
          | (have f1 := h42; have f2 := h55; rw [i_inc, m_rs_s1 (by exact ⟨f1, f2⟩)]; exact ih (k + 1) (by omega))
          | (have f1 := h42; have f2 := h55; rw [i_inc, m_rs_s0 (fun q => q.2 f2)]; exact ih (k + 1) (by omega))
          | (have f1 := h42; rw [i_inc, m_rs_s0 (fun q => f1 q.1)]; exact ih (k + 1) (by omega))

theorem m_al1_at (I : pv_I) : (∀ i, i < 8 → m_al1 I 77 63 i = I 77 i ∧ m_al1 I 77 64 i = I 77 (8 + i) ∧ m_al1 I 77 65 i = I 77 (16 + i)) ∧ (∀ c, c < 4 → m_al1 I 77 66 c = I 77 (24 + c)) ∧ (m_al1 I 77 61 0 = I 77 28 ∧ m_al1 I 77 61 1 = I 77 29 ∧ m_al1 I 77 61 2 = I 77 30 ∧ m_al1 I 77 61 3 = I 77 31) := by
  unfold m_al1
  refine ⟨fun i hi => ⟨?_, ?_, ?_⟩, fun c hc => ?_, ?_, ?_, ?_, ?_⟩
  · simp only [pv_u_ne _ _ (show 63 ≠ 61 by decide), m_cy_ne _ _ _ _ _ (show 63 ≠ 66 by decide), m_cy_ne _ _ _ _ _ (show 63 ≠ 65 by decide), m_cy_ne _ _ _ _ _ (show 63 ≠ 64 by decide)]
    rw [m_cy_in _ (by omega), show 0 + (i - 0) = i by omega]
  · simp only [pv_u_ne _ _ (show 64 ≠ 61 by decide), m_cy_ne _ _ _ _ _ (show 64 ≠ 66 by decide), m_cy_ne _ _ _ _ _ (show 64 ≠ 65 by decide)]
    rw [m_cy_in _ (by omega), m_cy_ne _ _ _ _ _ (show 77 ≠ 63 by decide), show 8 + (i - 0) = 8 + i by omega]
  · simp only [pv_u_ne _ _ (show 65 ≠ 61 by decide), m_cy_ne _ _ _ _ _ (show 65 ≠ 66 by decide)]
    rw [m_cy_in _ (by omega), m_cy_ne _ _ _ _ _ (show 77 ≠ 64 by decide), m_cy_ne _ _ _ _ _ (show 77 ≠ 63 by decide), show 16 + (i - 0) = 16 + i by omega]
  · simp only [pv_u_ne _ _ (show 66 ≠ 61 by decide)]
    rw [m_cy_in _ (by omega), m_cy_ne _ _ _ _ _ (show 77 ≠ 65 by decide), m_cy_ne _ _ _ _ _ (show 77 ≠ 64 by decide), m_cy_ne _ _ _ _ _ (show 77 ≠ 63 by decide), show 24 + (c - 0) = 24 + c by omega]
  · simp [pv_u_app]
  · simp [pv_u_app]
  · simp [pv_u_app]
  · simp [pv_u_app]
theorem m_al1_ne (I : pv_I) {x : Nat} (h : x ≠ 61 ∧ x ≠ 63 ∧ x ≠ 64 ∧ x ≠ 65 ∧ x ≠ 66) : m_al1 I 77 x = I x := by
  unfold m_al1
  simp only [pv_u_ne _ _ h.1, m_cy_ne _ _ _ _ _ h.2.1, m_cy_ne _ _ _ _ _ h.2.2.1, m_cy_ne _ _ _ _ _ h.2.2.2.1, m_cy_ne _ _ _ _ _ h.2.2.2.2]
theorem m_al1_61 (I : pv_I) {j : Nat} (h : 4 ≤ j) : m_al1 I 77 61 j = I 61 j := by
  unfold m_al1
  rw [pv_u_app, if_neg (by omega), pv_u_app, if_neg (by omega), pv_u_app, if_neg (by omega), pv_u_app, if_neg (by omega)]
  simp only [m_cy_ne _ _ _ _ _ (show 61 ≠ 66 by decide), m_cy_ne _ _ _ _ _ (show 61 ≠ 65 by decide), m_cy_ne _ _ _ _ _ (show 61 ≠ 64 by decide), m_cy_ne _ _ _ _ _ (show 61 ≠ 63 by decide)]
def w_re (J : pv_I) : pv_I := pv_ur (pv_ur (pv_u (pv_u (pv_u (pv_u J 0 0 (J 0 7)) 0 1 (J 0 8)) 0 2 (J 0 9)) 0 3 (J 0 10)) 4 (J 5)) 6 (fun s => if s < 8 ∧ J 6 s = 2 ∧ ¬ J 9 s < J 0 7 then 0 else J 6 s)
def S_restore (J : pv_I) (K : pv_L) : SR := if J 0 6 = 1 then (.int (J 0 7), w_re J, pv_u (pv_u K 0 0 (K 0 2)) 0 1 (K 0 3)) else S_ref J K 6 (.int (-6))
theorem RM.re {J : pv_I} {K : pv_L} {I : pv_I} {L : pv_L} (hW : WF J K) (h : RM J K I L) (h6 : J 0 6 = 1) : RM (w_re J) (pv_u (pv_u K 0 0 (K 0 2)) 0 1 (K 0 3)) (m_rs (m_al1 I 77) 8) (m_PQ L (L 79 0) (L 79 1)) ∧ m_al1 I 77 61 0 = J 0 7 := by
  obtain ⟨⟨e0, e1, e2, e3, e4, e5, e6, e7, e8⟩, g2, g3, g4, g5, g6, g7, g8⟩ := h
  have w0 := hW.1
  have w6 := hW.2.2.2.2.2 h6
  obtain ⟨i1, i2, i3, i4, i5, i6, i7, i8⟩ := g8 h6
  obtain ⟨a1, a2, a3, a4, a5, a6⟩ := m_al1_at I
  have r : ∀ {x}, x ≠ 67 → m_rs (m_al1 I 77) 8 x = m_al1 I 77 x := fun hx => m_rs_ne _ _ hx
  refine ⟨?_, by rw [a3, i3]⟩
  unfold RM RMi
  rw [r (show 61 ≠ 67 by decide), r (show 63 ≠ 67 by decide), r (show 64 ≠ 67 by decide), r (show 65 ≠ 67 by decide), r (show 66 ≠ 67 by decide), r (show 68 ≠ 67 by decide), r (show 69 ≠ 67 by decide), r (show 70 ≠ 67 by decide), r (show 62 ≠ 67 by decide), r (show 89 ≠ 67 by decide), r (show 77 ≠ 67 by decide),
    m_al1_ne I (x := 68) (by decide), m_al1_ne I (x := 69) (by decide), m_al1_ne I (x := 70) (by decide), m_al1_ne I (x := 62) (by decide), m_al1_ne I (x := 89) (by decide), m_al1_ne I (x := 77) (by decide), a3, a4, a5, a6, m_al1_61 I (j := 4) (by decide), m_al1_61 I (j := 59) (by decide), m_al1_61 I (j := 60) (by decide)]
  refine ⟨⟨i3, i4, i5, i6, e4, e5, e6, i7, i8⟩, fun i hi => ?_, fun c hc => ?_, fun s hs => ⟨?_, (g4 s hs).2⟩, g5, g6, fun s hs j hj => ?_, fun _ => ⟨i1, i2, i3, i4, i5, i6, i7, i8⟩⟩
  · have hi2 : (i : Int) < (J 0 7).toInt := hi
    obtain ⟨b1, b2, b3⟩ := a1 i (by omega)
    rw [b1, b2, b3]
    exact i1 i hi2
  · rw [a2 c hc]; exact i2 c hc
  · obtain ⟨c1, c2, c3, c4⟩ := g4 s hs
    have e : m_rs (m_al1 I 77) 8 67 s = if s < 8 ∧ J 6 s = 2 ∧ ¬ J 9 s < J 0 7 then 0 else J 6 s := by
      unfold m_rs
      rw [m_al1_ne I (x := 67) (by decide), m_al1_ne I (x := 70) (by decide), a3, i3, c1, c4]
      simp only [true_and]
    rw [e]; rfl
  · rw [pv_u_app, pv_u_app, if_neg (by omega), if_neg (by omega)]
    exact g7 s hs j hj
set_option maxRecDepth 100000 in
set_option maxHeartbeats 4000000 in
theorem c_X12_restore {G : pv_G} {d : Nat} {J : pv_I} {K : pv_L}  {t : pv_T} {I : pv_I} {L : pv_L} {Rf : pv_R} (hT : sh_ok t) (hR : rf_ok Rf) (hW : WF J K) (hM : RM J K I L) (hd : 6 ≤ d) : pv_Mt G mX12_restore d 0 0 [.ref 61] t I L Rf (qM (S_restore J K) t I L Rf) := by
  refine pv_mt mgX12_restore.2.2.2.2.2 [.ref 61, .retAddr 0] rfl (Nat.le_of_ble_eq_true rfl) ?_
  obtain ⟨⟨m0, m1, m2, m3, m4, m5, m6, m7, m8⟩, mf, mst, mh, mr, mt, mc, mi⟩ := id hM
  refine pv_aload_0 (pc := 0) dX12_restore_0 ?_
  refine pv_getI (pc := 1) dX12_restore_1 fg_X12_408_12 rfl (by decide) (sx_61 hT) ?_
  refine pv_if_ne (pc := 4) (tgt := 14) dX12_restore_4 (by decide) (fun h4 => ?_) (fun h4 => ?_)
  · refine pv_aload_0 (pc := 14) dX12_restore_14 ?_
    refine pv_aload_0 (pc := 15) dX12_restore_15 ?_
    refine pv_getR (pc := 16) dX12_restore_16 fg_X12_67_12 rfl (by decide) (sx_61 hT) (rx_61_29 hR) ?_
    refine pv_aload_0 (pc := 19) dX12_restore_19 ?_
    refine pv_getR (pc := 20) dX12_restore_20 fg_X12_73_12 rfl (by decide) (sx_61 hT) (rx_61_31 hR) ?_
    refine pv_iconst (pc := 23) (v := 1) dX12_restore_23 (by decide) ?_
    refine pv_callV0 (pc := 24) dX12_restore_24 mgX12_all lv_X12_219_12 (by decide) (sx_61 hT) (by omega) (c_X12_all1 hT hR (sx_77 hT) (sx_79 hT) (by decide) (by decide) (by omega)) rfl rfl (by decide) ?_
    refine pv_iconst (pc := 27) (v := 0) dX12_restore_27 (by decide) ?_
    refine pv_istore_1 (pc := 28) dX12_restore_28 (by decide) rfl ?_
    have h6 : J 0 6 = 1 := by
      rcases hW.2.2.2.2.1 with q | q
      · rw [m6] at h4; exact absurd q h4
      · exact q
    obtain ⟨r1, r2⟩ := hM.re hW h6
    have h := l_rs (d := d) (Q := qM (S_restore J K) t I L Rf) (I := m_al1 I 77) (L := m_PQ L (L 79 0) (L 79 1)) (G := G) hT hR (by
      have e : S_restore J K = (.int (J 0 7), w_re J, pv_u (pv_u K 0 0 (K 0 2)) 0 1 (K 0 3)) := by unfold S_restore; rw [if_pos h6]
      rw [e, r2]
      refine ⟨rfl, rfl, rfl, r1, fun x hx => ⟨?_, ?_⟩⟩
      · rw [m_rs_ne _ _ (by omega), m_al1_ne I (by omega)]
      · unfold m_PQ; rw [pv_u_ne _ _ (by omega), pv_u_ne _ _ (by omega)]) 8 0 (by omega)
    rw [m_rs_0] at h
    exact h
  · refine pv_aload_0 (pc := 7) dX12_restore_7 ?_
    refine pv_bipush (pc := 8) (v := (-6)) dX12_restore_8 (by decide) ?_
    refine pv_callV1 (pc := 10) dX12_restore_10 mgX12_no lv_X12_115_12 (by decide) (sx_61 hT) (by omega) (c_X12_no (k := 6) hT hR (by decide) (by unfold vp_in; decide)) rfl rfl (by decide) ?_
    refine pv_iret (pc := 13) dX12_restore_13 rfl rfl ?_
    refine qM.ref hM (k_lt6 : 6 < 8) ?_
    unfold S_restore
    rw [if_neg (by rw [m6] at h4; rw [h4]; decide)]

