/-! several numbers told -/
def s_stp (s : Int32) (x : Int64 × Int64) : Int64 × Int64 := (s_stepP s x.1 x.2, s_stepQ s x.1 x.2)
def w_there (aim : Int32) : Nat → ML → Bool
  | _, [] => true
  | i, x :: l => (decide (x.1 = 0) == decide (Int32.ofNat i = aim)) && w_there aim (i + 1) l
def w_tel (aim : Int32) : Nat → ML → Option (List Int32)
  | 0, bg => if w_there aim 0 bg = true then some [] else none
  | m + 1, bg => match w_tel aim m (bg.map (s_stp 0)) with
    | some l => some (0 :: l)
    | none => match w_tel aim m (bg.map (s_stp 1)) with
      | some l => some (1 :: l)
      | none => match w_tel aim m (bg.map (s_stp 2)) with
        | some l => some (2 :: l)
        | none => none
theorem w_tel_0 {a : Int32} {bg : ML} {m : Nat} {l : List Int32} (h : w_tel a m (bg.map (s_stp 0)) = some l) : w_tel a (m + 1) bg = some (0 :: l) := by rw [w_tel, h]
theorem w_tel_1 {a : Int32} {bg : ML} {m : Nat} {l : List Int32} (h0 : w_tel a m (bg.map (s_stp 0)) = none) (h : w_tel a m (bg.map (s_stp 1)) = some l) : w_tel a (m + 1) bg = some (1 :: l) := by rw [w_tel, h0, h]
theorem w_tel_2 {a : Int32} {bg : ML} {m : Nat} {l : List Int32} (h0 : w_tel a m (bg.map (s_stp 0)) = none) (h1 : w_tel a m (bg.map (s_stp 1)) = none) (h : w_tel a m (bg.map (s_stp 2)) = some l) : w_tel a (m + 1) bg = some (2 :: l) := by rw [w_tel, h0, h1, h]
theorem w_tel_n {a : Int32} {bg : ML} {m : Nat} (h0 : w_tel a m (bg.map (s_stp 0)) = none) (h1 : w_tel a m (bg.map (s_stp 1)) = none) (h2 : w_tel a m (bg.map (s_stp 2)) = none) : w_tel a (m + 1) bg = none := by rw [w_tel, h0, h1, h2]
theorem w_tel_len {a : Int32} : ∀ {m : Nat} {bg : ML} {l : List Int32}, w_tel a m bg = some l → l.length = m
  | 0, bg, l, h => by
    rw [w_tel] at h
    split at h
    · cases h; rfl
    · cases h
  | m + 1, bg, l, h => by
    rw [w_tel] at h
    split at h
    · rename_i l1 h1; cases h; rw [List.length_cons, w_tel_len h1]
    · split at h
      · rename_i l1 h1; cases h; rw [List.length_cons, w_tel_len h1]
      · split at h
        · rename_i l1 h1; cases h; rw [List.length_cons, w_tel_len h1]
        · cases h
def bg_ok (L : pv_L) (bg : ML) : Prop := ∀ j x, bg[j]? = some x → L 85 j = x.1 ∧ L 86 j = x.2
def gn (L : pv_L) (k : Nat) (bg : ML) (n : Nat) : Prop := ∀ j x, j < n → bg[j]? = some x → L 87 (4 * k + j) = x.1 ∧ L 88 (4 * k + j) = x.2
def bp (L : pv_L) (bg : ML) (n : Nat) : Prop := ∀ j x, j < n → bg[j]? = some x → L 85 j = x.1 ∧ L 86 j = x.2
/-- memory as it was, but for what tells changes -/
def hL (k : Nat) (L L1 : pv_L) : Prop := ∀ a j, a ≠ 85 → a ≠ 86 → ¬ (a = 61 ∧ (j = 18 ∨ j = 19)) → ¬ ((a = 87 ∨ a = 88) ∧ 4 * k ≤ j) → L1 a j = L a j
theorem hL.rf {k : Nat} {L : pv_L} : hL k L L := fun _ _ _ _ _ _ => rfl
theorem hL.tr {k : Nat} {L L1 L2 : pv_L} (h : hL k L L1) (g : hL k L1 L2) : hL k L L2 := fun a j h1 h2 h3 h4 => (g a j h1 h2 h3 h4).trans (h a j h1 h2 h3 h4)
theorem hL.mono {k n : Nat} {L L1 : pv_L} (h : hL n L L1) (g : k ≤ n) : hL k L L1 := fun a j h1 h2 h3 h4 => h a j h1 h2 h3 (fun r => h4 ⟨r.1, by omega⟩)
theorem hL.u {k : Nat} {L L1 : pv_L} (h : hL k L L1) (a j : Nat) (v : Int64) (hn : a = 85 ∨ a = 86 ∨ (a = 61 ∧ (j = 18 ∨ j = 19)) ∨ ((a = 87 ∨ a = 88) ∧ 4 * k ≤ j)) : hL k L (pv_u L1 a j v) := fun b i h1 h2 h3 h4 => by rw [pv_u_app, if_neg (by omega)]; exact h b i h1 h2 h3 h4
theorem hL.pq {k : Nat} {L L1 : pv_L} (h : hL k L L1) (p q : Int64) : hL k L (m_pq L1 p q) := (h.u 61 18 p (by omega)).u 61 19 q (by omega)
theorem h_kS {k n : Nat} {I I1 : pv_I} {L L1 : pv_L} (h : fr n I I1) (g : hL k L L1) : kS I L I1 L1 :=
  ⟨fun j _ => h 61 j (by decide) (by omega), g 61 5 (by decide) (by decide) (by omega) (by omega), g 61 6 (by decide) (by decide) (by omega) (by omega), fun a ha => funext fun j => h a j (by omega) (by omega), fun a ha => funext fun j => g a j (by omega) (by omega) (by omega) (by omega)⟩
theorem ix4 (k j : Nat) : 4 * Int32.ofNat k + Int32.ofNat j = Int32.ofNat (4 * k + j) := by rw [Int32.ofNat_add, Int32.ofNat_mul]; rfl
theorem bg_at {bg : ML} {j : Nat} (h : j < bg.length) : ∃ z, bg[j]? = some z := ⟨bg[j], List.getElem?_eq_getElem h⟩
theorem bp_u {L : pv_L} {bg : ML} {j : Nat} (h : bp L bg j) {x y : Int64} (hx : ∀ z, bg[j]? = some z → x = z.1 ∧ y = z.2) : bp (pv_u (pv_u L 85 j x) 86 j y) bg (j + 1) := by
  intro i z hi hz
  rw [pv_u_app, pv_u_app, pv_u_app, pv_u_app, if_neg (by omega), if_neg (by omega : ¬ (86 = 85 ∧ i = j))]
  by_cases e : i = j
  · subst e
    rw [if_pos ⟨rfl, rfl⟩, if_pos ⟨rfl, rfl⟩]; exact hx z hz
  · rw [if_neg (by omega), if_neg (by omega)]; exact h i z (by omega) hz
theorem gn_u {L : pv_L} {k : Nat} {bg : ML} {j : Nat} (h : gn L k bg j) {x y : Int64} (hx : ∀ z, bg[j]? = some z → x = z.1 ∧ y = z.2) : gn (pv_u (pv_u L 87 (4 * k + j) x) 88 (4 * k + j) y) k bg (j + 1) := by
  intro i z hi hz
  rw [pv_u_app, pv_u_app, pv_u_app, pv_u_app, if_neg (by omega), if_neg (by omega : ¬ (88 = 87 ∧ 4 * k + i = 4 * k + j))]
  by_cases e : i = j
  · subst e
    rw [if_pos ⟨rfl, rfl⟩, if_pos ⟨rfl, rfl⟩]; exact hx z hz
  · rw [if_neg (by omega), if_neg (by omega)]; exact h i z (by omega) hz
theorem gn_cg {L L1 : pv_L} {k n : Nat} {bg : ML} (h : gn L k bg n) (h1 : ∀ j, j < n → L1 87 (4 * k + j) = L 87 (4 * k + j) ∧ L1 88 (4 * k + j) = L 88 (4 * k + j)) : gn L1 k bg n := fun j x hj hx => by rw [(h1 j hj).1, (h1 j hj).2]; exact h j x hj hx
theorem bp_all {L : pv_L} {bg : ML} (h : bp L bg bg.length) : bg_ok L bg := fun j x hx => h j x (List.getElem?_eq_some_iff.mp hx).1 hx
theorem bp_of {L : pv_L} {bg : ML} (h : bg_ok L bg) (n : Nat) : bp L bg n := fun j x _ hx => h j x hx
theorem map_at {bg : ML} {s : Int32} {j : Nat} {z : Int64 × Int64} (h : bg[j]? = some z) : (bg.map (s_stp s))[j]? = some (s_stp s z) := by rw [List.getElem?_map, h]; rfl

set_option maxRecDepth 100000 in
set_option maxHeartbeats 4000000 in
theorem l_tlf {G : pv_G} {d k : Nat} {Q : pv_Q} {n aim : Int32} {bg : ML} {t : pv_T} {I : pv_I} {Rf : pv_R} (hT : sh_ok t) (hR : rf_ok Rf) (hm : I 61 56 = Int32.ofNat bg.length) (hbl : bg.length ≤ 4) {L : pv_L} {r : Bool} {l4 : Value} (ha : I 61 57 = aim) (hbg : bg_ok L bg) (hQ : Q (some (.int (pv_b r))) t I L Rf) : ∀ (m j : Nat), j + m = bg.length → w_there aim j (bg.drop j) = r →
    pv_V G mX12_tells d 0 0 Q 0 0 7 [.ref 61, .int (Int32.ofNat k), .int n, .int (Int32.ofNat j), l4] [] t I L Rf := by
  intro m
  induction m with
  | zero =>
    intro j hj hr
    refine pv_iload_3 (pc := 7) dX12_tells_7 ?_
    refine pv_aload_0 (pc := 8) dX12_tells_8 ?_
    refine pv_getI (pc := 9) dX12_tells_9 fg_X12_377_12 rfl (by decide) (sx_61 hT) ?_
    refine pv_icmp_ge (pc := 12) (tgt := 55) dX12_tells_12 (by decide) (fun h12 => ?_) (fun h12 => absurd h12 (by rw [hm, i_lt, i_of (by omega), i_of (by omega)]; omega))
    refine pv_iconst (pc := 55) (v := 1) dX12_tells_55 (by decide) ?_
    refine pv_iret (pc := 56) dX12_tells_56 rfl rfl ?_
    rw [List.drop_of_length_le (by omega)] at hr
    have hr : true = r := hr
    rw [← hr] at hQ; exact hQ
  | succ m ih =>
    intro j hj hr
    refine pv_iload_3 (pc := 7) dX12_tells_7 ?_
    refine pv_aload_0 (pc := 8) dX12_tells_8 ?_
    refine pv_getI (pc := 9) dX12_tells_9 fg_X12_377_12 rfl (by decide) (sx_61 hT) ?_
    refine pv_icmp_ge (pc := 12) (tgt := 55) dX12_tells_12 (by decide) (fun h12 => absurd h12 (not_not_intro (by rw [hm, i_lt, i_of (by omega), i_of (by omega)]; omega))) (fun h12 => ?_)
    have ej := i_nat (k := j) (by omega)
    obtain ⟨z, hz⟩ := bg_at (bg := bg) (j := j) (by omega)
    obtain ⟨z1, z2⟩ := hbg j z hz
    have hdr : bg.drop j = z :: bg.drop (j + 1) := by
      rw [List.drop_eq_getElem_cons (by omega)]
      congr 1
      rw [List.getElem?_eq_getElem (by omega)] at hz
      exact Option.some.inj hz
    refine pv_aload_0 (pc := 15) dX12_tells_15 ?_
    refine pv_getR (pc := 16) dX12_tells_16 fg_X12_91_12 rfl (by decide) (sx_61 hT) (rx_61_52 hR) ?_
    refine pv_iload_3 (pc := 19) dX12_tells_19 ?_
    refine pv_laloadj (pc := 20) dX12_tells_20 (by decide) (sx_85 hT) rfl (i_in (k := j) (by omega) (by decide)) ?_
    refine pv_lconst (pc := 21) (v := 0) dX12_tells_21 (by decide) ?_
    refine pv_lcmp_ne (pc := 22) (tgt := 30) dX12_tells_22 dX12_tells_23 (by decide) (fun h22 => ?_) (fun h22 => ?_)
    · refine pv_iconst (pc := 30) (v := 0) dX12_tells_30 (by decide) ?_
      refine pv_iload_3 (pc := 31) dX12_tells_31 ?_
      refine pv_aload_0 (pc := 32) dX12_tells_32 ?_
      refine pv_getI (pc := 33) dX12_tells_33 fg_X12_380_12 rfl (by decide) (sx_61 hT) ?_
      refine pv_icmp_ne (pc := 36) (tgt := 43) dX12_tells_36 (by decide) (fun h36 => ?_) (fun h36 => ?_)
      · refine pv_iconst (pc := 43) (v := 0) dX12_tells_43 (by decide) ?_
        refine pv_icmp_eq (pc := 44) (tgt := 49) dX12_tells_44 (by decide) (fun _ => ?_) (fun q => absurd q (by decide))
        refine pv_iinc_3 (pc := 49) (v := _ + 1) dX12_tells_49 rfl (by decide) rfl ?_
        refine pv_goto (pc := 52) (tgt := 7) dX12_tells_52 (by decide) ?_
        rw [i_inc]
        refine ih (j + 1) (by omega) ?_
        rw [← hr, hdr, w_there]
        have f1 := h22
        have f2 := h36
        rw [ej, z1] at f1
        rw [ha] at f2
        simp_all
      · refine pv_iconst (pc := 39) (v := 1) dX12_tells_39 (by decide) ?_
        refine pv_goto (pc := 40) (tgt := 44) dX12_tells_40 (by decide) ?_
        refine pv_icmp_eq (pc := 44) (tgt := 49) dX12_tells_44 (by decide) (fun q => absurd q (by decide)) (fun _ => ?_)
        refine pv_iconst (pc := 47) (v := 0) dX12_tells_47 (by decide) ?_
        refine pv_iret (pc := 48) dX12_tells_48 rfl rfl ?_
        have f1 := h22
        have f2 := h36
        rw [ej, z1] at f1
        rw [ha] at f2
        have e : w_there aim j (z :: bg.drop (j + 1)) = false := by
          rw [w_there]
          simp_all
        rw [hdr, e] at hr
        rw [← hr] at hQ; exact hQ
    · refine pv_iconst (pc := 26) (v := 1) dX12_tells_26 (by decide) ?_
      refine pv_goto (pc := 27) (tgt := 31) dX12_tells_27 (by decide) ?_
      refine pv_iload_3 (pc := 31) dX12_tells_31 ?_
      refine pv_aload_0 (pc := 32) dX12_tells_32 ?_
      refine pv_getI (pc := 33) dX12_tells_33 fg_X12_380_12 rfl (by decide) (sx_61 hT) ?_
      refine pv_icmp_ne (pc := 36) (tgt := 43) dX12_tells_36 (by decide) (fun h36 => ?_) (fun h36 => ?_)
      · refine pv_iconst (pc := 43) (v := 0) dX12_tells_43 (by decide) ?_
        refine pv_icmp_eq (pc := 44) (tgt := 49) dX12_tells_44 (by decide) (fun q => absurd q (by decide)) (fun _ => ?_)
        refine pv_iconst (pc := 47) (v := 0) dX12_tells_47 (by decide) ?_
        refine pv_iret (pc := 48) dX12_tells_48 rfl rfl ?_
        have f1 := h22
        have f2 := h36
        rw [ej, z1] at f1
        rw [ha] at f2
        have e : w_there aim j (z :: bg.drop (j + 1)) = false := by
          rw [w_there]
          simp_all
        rw [hdr, e] at hr
        rw [← hr] at hQ; exact hQ
      · refine pv_iconst (pc := 39) (v := 1) dX12_tells_39 (by decide) ?_
        refine pv_goto (pc := 40) (tgt := 44) dX12_tells_40 (by decide) ?_
        refine pv_icmp_eq (pc := 44) (tgt := 49) dX12_tells_44 (by decide) (fun _ => ?_) (fun q => absurd q (by decide))
        refine pv_iinc_3 (pc := 49) (v := _ + 1) dX12_tells_49 rfl (by decide) rfl ?_
        refine pv_goto (pc := 52) (tgt := 7) dX12_tells_52 (by decide) ?_
        rw [i_inc]
        refine ih (j + 1) (by omega) ?_
        rw [← hr, hdr, w_there]
        have f1 := h22
        have f2 := h36
        rw [ej, z1] at f1
        rw [ha] at f2
        simp_all

set_option maxRecDepth 100000 in
set_option maxHeartbeats 4000000 in
theorem l_tlA {G : pv_G} {d k : Nat} {Q : pv_Q} {n aim : Int32} {bg : ML} {t : pv_T} {I : pv_I} {Rf : pv_R} (hT : sh_ok t) (hR : rf_ok Rf) (hm : I 61 56 = Int32.ofNat bg.length) (hbl : bg.length ≤ 4) {L0 : pv_L} {l4 : Value} (hk : k ≤ 8) (hQ : ∀ L, (hL k L0 L ∧ bg_ok L bg ∧ gn L k bg bg.length) → ∀ l3, pv_V G mX12_tells d 0 0 Q 0 0 105 [.ref 61, .int (Int32.ofNat k), .int n, l3, l4] [] t I L Rf) : ∀ (m j : Nat) (L : pv_L), j + m = bg.length → (hL k L0 L ∧ bg_ok L bg ∧ gn L k bg j) →
    pv_V G mX12_tells d 0 0 Q 0 0 59 [.ref 61, .int (Int32.ofNat k), .int n, .int (Int32.ofNat j), l4] [] t I L Rf := by
  intro m
  induction m with
  | zero =>
    intro j L hj hi
    refine pv_iload_3 (pc := 59) dX12_tells_59 ?_
    refine pv_aload_0 (pc := 60) dX12_tells_60 ?_
    refine pv_getI (pc := 61) dX12_tells_61 fg_X12_377_12 rfl (by decide) (sx_61 hT) ?_
    refine pv_icmp_ge (pc := 64) (tgt := 105) dX12_tells_64 (by decide) (fun h64 => ?_) (fun h64 => absurd h64 (by rw [hm, i_lt, i_of (by omega), i_of (by omega)]; omega))
    rw [show j = bg.length by omega] at hi
    exact hQ _ hi _
  | succ m ih =>
    intro j L hj hi
    refine pv_iload_3 (pc := 59) dX12_tells_59 ?_
    refine pv_aload_0 (pc := 60) dX12_tells_60 ?_
    refine pv_getI (pc := 61) dX12_tells_61 fg_X12_377_12 rfl (by decide) (sx_61 hT) ?_
    refine pv_icmp_ge (pc := 64) (tgt := 105) dX12_tells_64 (by decide) (fun h64 => absurd h64 (not_not_intro (by rw [hm, i_lt, i_of (by omega), i_of (by omega)]; omega))) (fun h64 => ?_)
    have ej := i_nat (k := j) (by omega)
    have e4 := i_nat (k := 4 * k + j) (by omega)
    refine pv_aload_0 (pc := 67) dX12_tells_67 ?_
    refine pv_getR (pc := 68) dX12_tells_68 fg_X12_97_12 rfl (by decide) (sx_61 hT) (rx_61_54 hR) ?_
    refine pv_iconst (pc := 71) (v := 4) dX12_tells_71 (by decide) ?_
    refine pv_iload_1 (pc := 72) dX12_tells_72 ?_
    refine pv_imul (pc := 73) dX12_tells_73 ?_
    refine pv_iload_3 (pc := 74) dX12_tells_74 ?_
    refine pv_iadd (pc := 75) dX12_tells_75 ?_
    refine pv_topv2 (y := Int32.ofNat (4 * k + j)) (ix4 k j) ?_
    refine pv_aload_0 (pc := 76) dX12_tells_76 ?_
    refine pv_getR (pc := 77) dX12_tells_77 fg_X12_91_12 rfl (by decide) (sx_61 hT) (rx_61_52 hR) ?_
    refine pv_iload_3 (pc := 80) dX12_tells_80 ?_
    refine pv_laloadj (pc := 81) dX12_tells_81 (by decide) (sx_85 hT) rfl (i_in (k := j) (by omega) (by decide)) ?_
    refine pv_lastorej (pc := 82) dX12_tells_82 (by decide) (sx_87 hT) rfl (i_in (k := 4 * k + j) (by omega) (by decide)) ?_
    refine pv_aload_0 (pc := 83) dX12_tells_83 ?_
    refine pv_getR (pc := 84) dX12_tells_84 fg_X12_100_12 rfl (by decide) (sx_61 hT) (rx_61_55 hR) ?_
    refine pv_iconst (pc := 87) (v := 4) dX12_tells_87 (by decide) ?_
    refine pv_iload_1 (pc := 88) dX12_tells_88 ?_
    refine pv_imul (pc := 89) dX12_tells_89 ?_
    refine pv_iload_3 (pc := 90) dX12_tells_90 ?_
    refine pv_iadd (pc := 91) dX12_tells_91 ?_
    refine pv_topv2 (y := Int32.ofNat (4 * k + j)) (ix4 k j) ?_
    refine pv_aload_0 (pc := 92) dX12_tells_92 ?_
    refine pv_getR (pc := 93) dX12_tells_93 fg_X12_94_12 rfl (by decide) (sx_61 hT) (rx_61_53 hR) ?_
    refine pv_iload_3 (pc := 96) dX12_tells_96 ?_
    refine pv_laloadj (pc := 97) dX12_tells_97 (by decide) (sx_86 hT) rfl (i_in (k := j) (by omega) (by decide)) ?_
    refine pv_lastorej (pc := 98) dX12_tells_98 (by decide) (sx_88 hT) rfl (i_in (k := 4 * k + j) (by omega) (by decide)) ?_
    refine pv_iinc_3 (pc := 99) (v := _ + 1) dX12_tells_99 rfl (by decide) rfl ?_
    refine pv_goto (pc := 102) (tgt := 59) dX12_tells_102 (by decide) ?_
    rw [i_inc]
    refine ih (j + 1) _ (by omega) ?_
    obtain ⟨i1, i2, i3⟩ := hi
    rw [ej, e4]
    refine ⟨(i1.u 87 _ _ (by omega)).u 88 _ _ (by omega), fun i x hx => i2 i x hx, gn_u i3 (fun z hz => ⟨(i2 j z hz).1, ?_⟩)⟩
    exact (i2 j z hz).2

set_option maxRecDepth 100000 in
set_option maxHeartbeats 4000000 in
theorem l_tlC {G : pv_G} {d k : Nat} {Q : pv_Q} {n aim : Int32} {bg : ML} {t : pv_T} {I : pv_I} {Rf : pv_R} (hT : sh_ok t) (hR : rf_ok Rf) (hm : I 61 56 = Int32.ofNat bg.length) (hbl : bg.length ≤ 4) {L0 : pv_L} {l4 : Value} (hk : k ≤ 8) (hQ : ∀ L, (hL k L0 L ∧ gn L k bg bg.length ∧ bp L bg bg.length) → ∀ l3, pv_V G mX12_tells d 0 0 Q 0 0 261 [.ref 61, .int (Int32.ofNat k), .int n, l3, l4] [] t I L Rf) : ∀ (m j : Nat) (L : pv_L), j + m = bg.length → (hL k L0 L ∧ gn L k bg bg.length ∧ bp L bg j) →
    pv_V G mX12_tells d 0 0 Q 0 0 215 [.ref 61, .int (Int32.ofNat k), .int n, .int (Int32.ofNat j), l4] [] t I L Rf := by
  intro m
  induction m with
  | zero =>
    intro j L hj hi
    refine pv_iload_3 (pc := 215) dX12_tells_215 ?_
    refine pv_aload_0 (pc := 216) dX12_tells_216 ?_
    refine pv_getI (pc := 217) dX12_tells_217 fg_X12_377_12 rfl (by decide) (sx_61 hT) ?_
    refine pv_icmp_ge (pc := 220) (tgt := 261) dX12_tells_220 (by decide) (fun h220 => ?_) (fun h220 => absurd h220 (by rw [hm, i_lt, i_of (by omega), i_of (by omega)]; omega))
    rw [show j = bg.length by omega] at hi
    exact hQ _ hi _
  | succ m ih =>
    intro j L hj hi
    refine pv_iload_3 (pc := 215) dX12_tells_215 ?_
    refine pv_aload_0 (pc := 216) dX12_tells_216 ?_
    refine pv_getI (pc := 217) dX12_tells_217 fg_X12_377_12 rfl (by decide) (sx_61 hT) ?_
    refine pv_icmp_ge (pc := 220) (tgt := 261) dX12_tells_220 (by decide) (fun h220 => absurd h220 (not_not_intro (by rw [hm, i_lt, i_of (by omega), i_of (by omega)]; omega))) (fun h220 => ?_)
    have ej := i_nat (k := j) (by omega)
    have e4 := i_nat (k := 4 * k + j) (by omega)
    refine pv_aload_0 (pc := 223) dX12_tells_223 ?_
    refine pv_getR (pc := 224) dX12_tells_224 fg_X12_91_12 rfl (by decide) (sx_61 hT) (rx_61_52 hR) ?_
    refine pv_iload_3 (pc := 227) dX12_tells_227 ?_
    refine pv_aload_0 (pc := 228) dX12_tells_228 ?_
    refine pv_getR (pc := 229) dX12_tells_229 fg_X12_97_12 rfl (by decide) (sx_61 hT) (rx_61_54 hR) ?_
    refine pv_iconst (pc := 232) (v := 4) dX12_tells_232 (by decide) ?_
    refine pv_iload_1 (pc := 233) dX12_tells_233 ?_
    refine pv_imul (pc := 234) dX12_tells_234 ?_
    refine pv_iload_3 (pc := 235) dX12_tells_235 ?_
    refine pv_iadd (pc := 236) dX12_tells_236 ?_
    refine pv_topv2 (y := Int32.ofNat (4 * k + j)) (ix4 k j) ?_
    refine pv_laloadj (pc := 237) dX12_tells_237 (by decide) (sx_87 hT) rfl (i_in (k := 4 * k + j) (by omega) (by decide)) ?_
    refine pv_lastorej (pc := 238) dX12_tells_238 (by decide) (sx_85 hT) rfl (i_in (k := j) (by omega) (by decide)) ?_
    refine pv_aload_0 (pc := 239) dX12_tells_239 ?_
    refine pv_getR (pc := 240) dX12_tells_240 fg_X12_94_12 rfl (by decide) (sx_61 hT) (rx_61_53 hR) ?_
    refine pv_iload_3 (pc := 243) dX12_tells_243 ?_
    refine pv_aload_0 (pc := 244) dX12_tells_244 ?_
    refine pv_getR (pc := 245) dX12_tells_245 fg_X12_100_12 rfl (by decide) (sx_61 hT) (rx_61_55 hR) ?_
    refine pv_iconst (pc := 248) (v := 4) dX12_tells_248 (by decide) ?_
    refine pv_iload_1 (pc := 249) dX12_tells_249 ?_
    refine pv_imul (pc := 250) dX12_tells_250 ?_
    refine pv_iload_3 (pc := 251) dX12_tells_251 ?_
    refine pv_iadd (pc := 252) dX12_tells_252 ?_
    refine pv_topv2 (y := Int32.ofNat (4 * k + j)) (ix4 k j) ?_
    refine pv_laloadj (pc := 253) dX12_tells_253 (by decide) (sx_88 hT) rfl (i_in (k := 4 * k + j) (by omega) (by decide)) ?_
    refine pv_lastorej (pc := 254) dX12_tells_254 (by decide) (sx_86 hT) rfl (i_in (k := j) (by omega) (by decide)) ?_
    refine pv_iinc_3 (pc := 255) (v := _ + 1) dX12_tells_255 rfl (by decide) rfl ?_
    refine pv_goto (pc := 258) (tgt := 215) dX12_tells_258 (by decide) ?_
    rw [i_inc]
    refine ih (j + 1) _ (by omega) ?_
    obtain ⟨i1, i2, i3⟩ := hi
    rw [ej, e4]
    refine ⟨(i1.u 85 _ _ (by omega)).u 86 _ _ (by omega), fun i x hi hx => i2 i x hi hx, bp_u i3 (fun z hz => ⟨(i2 j z (by omega) hz).1, ?_⟩)⟩
    exact (i2 j z (by omega) hz).2

set_option maxRecDepth 100000 in
set_option maxHeartbeats 4000000 in
theorem l_tlB {G : pv_G} {d k : Nat} {Q : pv_Q} {n aim : Int32} {bg : ML} {t : pv_T} {I0 : pv_I} {Rf : pv_R} (hT : sh_ok t) (hR : rf_ok Rf) (hm : I0 61 56 = Int32.ofNat bg.length) (hbl : bg.length ≤ 4) {L0 : pv_L} {s : Int32} (hs : s = 0 ∨ s = 1 ∨ s = 2) (hk : k ≤ 8) (hd : 6 ≤ d) (hQ : ∀ I L, (fr k I0 I ∧ I 81 k = s ∧ hL k L0 L ∧ gn L k bg bg.length ∧ bp L (bg.map (s_stp s)) bg.length) → ∀ l4, pv_V G mX12_tells d 0 0 Q 0 0 194 [.ref 61, .int (Int32.ofNat k), .int n, .int s, l4] [] t I L Rf) : ∀ (m j : Nat) (I : pv_I) (L : pv_L), j + m = bg.length → (fr k I0 I ∧ I 81 k = s ∧ hL k L0 L ∧ gn L k bg bg.length ∧ bp L (bg.map (s_stp s)) j) →
    pv_V G mX12_tells d 0 0 Q 0 0 122 [.ref 61, .int (Int32.ofNat k), .int n, .int s, .int (Int32.ofNat j)] [] t I L Rf := by
  intro m
  induction m with
  | zero =>
    intro j I L hj hi
    have hm2 : I 61 56 = Int32.ofNat bg.length := (hi.1 61 56 (by decide) (by omega)).trans hm
    refine pv_iload_4 (pc := 122) dX12_tells_122 ?_
    refine pv_aload_0 (pc := 124) dX12_tells_124 ?_
    refine pv_getI (pc := 125) dX12_tells_125 fg_X12_377_12 rfl (by decide) (sx_61 hT) ?_
    refine pv_icmp_ge (pc := 128) (tgt := 194) dX12_tells_128 (by decide) (fun h128 => ?_) (fun h128 => absurd h128 (by rw [hm2, i_lt, i_of (by omega), i_of (by omega)]; omega))
    rw [show j = bg.length by omega] at hi
    exact hQ _ _ hi _
  | succ m ih =>
    intro j I L hj hi
    have hm2 : I 61 56 = Int32.ofNat bg.length := (hi.1 61 56 (by decide) (by omega)).trans hm
    refine pv_iload_4 (pc := 122) dX12_tells_122 ?_
    refine pv_aload_0 (pc := 124) dX12_tells_124 ?_
    refine pv_getI (pc := 125) dX12_tells_125 fg_X12_377_12 rfl (by decide) (sx_61 hT) ?_
    refine pv_icmp_ge (pc := 128) (tgt := 194) dX12_tells_128 (by decide) (fun h128 => absurd h128 (not_not_intro (by rw [hm2, i_lt, i_of (by omega), i_of (by omega)]; omega))) (fun h128 => ?_)
    have ej := i_nat (k := j) (by omega)
    have e4 := i_nat (k := 4 * k + j) (by omega)
    refine pv_aload_0 (pc := 131) dX12_tells_131 ?_
    refine pv_aload_0 (pc := 132) dX12_tells_132 ?_
    refine pv_getR (pc := 133) dX12_tells_133 fg_X12_97_12 rfl (by decide) (sx_61 hT) (rx_61_54 hR) ?_
    refine pv_iconst (pc := 136) (v := 4) dX12_tells_136 (by decide) ?_
    refine pv_iload_1 (pc := 137) dX12_tells_137 ?_
    refine pv_imul (pc := 138) dX12_tells_138 ?_
    refine pv_iload_4 (pc := 139) dX12_tells_139 ?_
    refine pv_iadd (pc := 141) dX12_tells_141 ?_
    refine pv_topv2 (y := Int32.ofNat (4 * k + j)) (ix4 k j) ?_
    refine pv_laloadj (pc := 142) dX12_tells_142 (by decide) (sx_87 hT) rfl (i_in (k := 4 * k + j) (by omega) (by decide)) ?_
    refine pv_putL (pc := 143) dX12_tells_143 fl_X12_150_12 (fun q => by cases q) (by decide) (sx_61 hT) ?_
    refine pv_aload_0 (pc := 146) dX12_tells_146 ?_
    refine pv_aload_0 (pc := 147) dX12_tells_147 ?_
    refine pv_getR (pc := 148) dX12_tells_148 fg_X12_100_12 rfl (by decide) (sx_61 hT) (rx_61_55 hR) ?_
    refine pv_iconst (pc := 151) (v := 4) dX12_tells_151 (by decide) ?_
    refine pv_iload_1 (pc := 152) dX12_tells_152 ?_
    refine pv_imul (pc := 153) dX12_tells_153 ?_
    refine pv_iload_4 (pc := 154) dX12_tells_154 ?_
    refine pv_iadd (pc := 156) dX12_tells_156 ?_
    refine pv_topv2 (y := Int32.ofNat (4 * k + j)) (ix4 k j) ?_
    refine pv_laloadj (pc := 157) dX12_tells_157 (by decide) (sx_88 hT) rfl (i_in (k := 4 * k + j) (by omega) (by decide)) ?_
    refine pv_putL (pc := 158) dX12_tells_158 fl_X12_153_12 (fun q => by cases q) (by decide) (sx_61 hT) ?_
    refine pv_aload_0 (pc := 161) dX12_tells_161 ?_
    refine pv_iload_3 (pc := 162) dX12_tells_162 ?_
    refine pv_callV0 (pc := 163) dX12_tells_163 mgX12_step lv_X12_286_12 (by decide) (sx_61 hT) (by omega) (c_X12_step hT hR hs (by omega)) rfl rfl (by decide) ?_
    refine pv_aload_0 (pc := 166) dX12_tells_166 ?_
    refine pv_getR (pc := 167) dX12_tells_167 fg_X12_91_12 rfl (by decide) (sx_61 hT) (rx_61_52 hR) ?_
    refine pv_iload_4 (pc := 170) dX12_tells_170 ?_
    refine pv_aload_0 (pc := 172) dX12_tells_172 ?_
    refine pv_getL (pc := 173) dX12_tells_173 fg_X12_150_12 (by decide) (sx_61 hT) ?_
    refine pv_lastorej (pc := 176) dX12_tells_176 (by decide) (sx_85 hT) rfl (i_in (k := j) (by omega) (by decide)) ?_
    refine pv_aload_0 (pc := 177) dX12_tells_177 ?_
    refine pv_getR (pc := 178) dX12_tells_178 fg_X12_94_12 rfl (by decide) (sx_61 hT) (rx_61_53 hR) ?_
    refine pv_iload_4 (pc := 181) dX12_tells_181 ?_
    refine pv_aload_0 (pc := 183) dX12_tells_183 ?_
    refine pv_getL (pc := 184) dX12_tells_184 fg_X12_153_12 (by decide) (sx_61 hT) ?_
    refine pv_lastorej (pc := 187) dX12_tells_187 (by decide) (sx_86 hT) rfl (i_in (k := j) (by omega) (by decide)) ?_
    refine pv_iinc_4 (pc := 188) (v := _ + 1) dX12_tells_188 rfl (by decide) rfl ?_
    refine pv_goto (pc := 191) (tgt := 122) dX12_tells_191 (by decide) ?_
    rw [i_inc]
    refine ih (j + 1) _ _ (by omega) ?_
    obtain ⟨i0, i01, i1, i2, i3⟩ := hi
    rw [ej, e4]
    refine ⟨i0.at _, i01, (((((i1.u 61 18 _ (by omega)).u 61 19 _ (by omega)).pq _ _).u 85 _ _ (by omega)).u 86 _ _ (by omega)), fun i x hi hx => i2 i x hi hx, ?_⟩
    refine bp_u (fun i x hi hx => i3 i x hi hx) (fun z hz => ?_)
    obtain ⟨z0, hz0⟩ := bg_at (bg := bg) (j := j) (by omega)
    rw [map_at hz0] at hz
    have e := i2 j z0 (by omega) hz0
    cases hz
    have e1 : L 87 (4 * k + j) = z0.1 := e.1
    have e2 : L 88 (4 * k + j) = z0.2 := e.2
    constructor
    · show s_stepP s (L 87 (4 * k + j)) (L 88 (4 * k + j)) = _
      rw [e1, e2]; rfl
    · show s_stepQ s (L 87 (4 * k + j)) (L 88 (4 * k + j)) = _
      rw [e1, e2]; rfl

