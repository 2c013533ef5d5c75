/-! the class: a shelf is read as a text -/
/-- what the formatter of the library is: a reference or nothing, so of one slot -/
theorem x_shr (x : Int32) : x >>> (0 : Int32) = x := by simp
def fk_ok (G : pv_G) : Prop := ∀ r, pv_ent (G.2.2.2.2.2 :: r) = G.2.2.2.2.2 :: pv_ent r
def x_wd (i : Nat) : List Int32 := pv_sb.getD i []
theorem x_wd_len {i : Nat} (h : i < 3) : (x_wd i).length ≤ 6 ∧ 0 < (x_wd i).length := by
  have : i = 0 ∨ i = 1 ∨ i = 2 := by omega
  rcases this with rfl | rfl | rfl <;> decide
theorem x_wd_b {i : Nat} (h : i < 3) : ∀ x ∈ x_wd i, 0 ≤ x.toInt ∧ x.toInt ≤ 255 := by
  have : i = 0 ∨ i = 1 ∨ i = 2 := by omega
  rcases this with rfl | rfl | rfl <;> decide
theorem x_wd_at {G : pv_G} {t : pv_T} {I : pv_I} (h : pv_X G t I) {i : Nat} (hi : i < 3) : t.1 (5 + i) = some (.inl (.byte, (x_wd i).length)) ∧ ∀ j x, (x_wd i)[j]? = some x → I (5 + i) j = x := by
  have : i = 0 ∨ i = 1 ∨ i = 2 := by omega
  have key : ∀ (k : Nat) (l : List Int32), (∀ j, j < l.length → I k j = l.getD j 0) → ∀ j x, l[j]? = some x → I k j = x := by
    intro k l hl j x hx
    rw [hl j (List.getElem?_eq_some_iff.mp hx).1, List.getD_eq_getElem?_getD, hx]; rfl
  rcases this with rfl | rfl | rfl
  · exact ⟨(h 5 (by decide)).1, key 5 _ (fun j hj => (h 5 (by decide)).2 _ rfl j hj)⟩
  · exact ⟨(h 6 (by decide)).1, key 6 _ (fun j hj => (h 6 (by decide)).2 _ rfl j hj)⟩
  · exact ⟨(h 7 (by decide)).1, key 7 _ (fun j hj => (h 7 (by decide)).2 _ rfl j hj)⟩
theorem x_nch (x : Int32) (h : (x.toUInt32 % 65536).toInt32 = x) : narrow .char (.int x) = .int x := by
  show Value.int _ = Value.int x
  exact congrArg Value.int h
set_option maxRecDepth 100000 in
theorem x_ch2 : ∀ k, k < 256 → ((Int32.ofNat k).toUInt32 % 65536).toInt32 = Int32.ofNat k := by decide +kernel
set_option maxRecDepth 100000 in
theorem x_ch : ∀ k, k < 256 → (((Int32.ofNat k) &&& 255).toUInt32 % 65536).toInt32 = Int32.ofNat k := by decide +kernel
theorem x_chr {x : Int32} (h : 0 ≤ x.toInt ∧ x.toInt ≤ 255) : ((x &&& 255).toUInt32 % 65536).toInt32 = x := by
  have e : x = Int32.ofNat x.toNatClampNeg := by
    have l := i_lit x
    rw [← Int32.toInt_inj, i_of (by omega)]; omega
  have l := i_lit x
  rw [e]
  exact x_ch _ (by omega)
theorem x_nar {x : Int32} (h : 0 ≤ x.toInt ∧ x.toInt ≤ 255) : narrow .char (.int x) = .int x := by
  have l := i_lit x
  have e : x = Int32.ofNat x.toNatClampNeg := by rw [← Int32.toInt_inj, i_of (by omega)]; omega
  refine x_nch x ?_
  rw [e]
  exact x_ch2 _ (by omega)

set_option maxRecDepth 100000 in
set_option maxHeartbeats 4000000 in
theorem c_J3_checkIndex_8e157 {G : pv_G} {d : Nat} {i n : Int32} {t : pv_T} {I : pv_I} {L : pv_L} {Rf : pv_R} (hF : fk_ok G) (g0 : ¬ i < 0) (g1 : i < n) : pv_Mt G mJ3_checkIndex_8e157 d 0 0 [.int i, .int n, G.2.2.2.2.2] t I L Rf (pv_is (some (.int i)) t I L Rf) := by
  refine pv_mt mgJ3_checkIndex_8e157.2.2.2.2.2 [.int i, .int n, G.2.2.2.2.2] (by show .int i :: .int n :: pv_ent [G.2.2.2.2.2] ++ List.replicate (3 - (.int i :: .int n :: pv_ent [G.2.2.2.2.2]).length) (.retAddr 0) = _; rw [hF []]; rfl) (by show (.int i :: .int n :: pv_ent [G.2.2.2.2.2]).length ≤ 3; rw [hF []]; exact Nat.le_refl 3) ?_
  refine pv_iload_0 (pc := 0) dJ3_checkIndex_8e157_0 ?_
  refine pv_if_lt (pc := 1) (tgt := 9) dJ3_checkIndex_8e157_1 (by decide) (fun h1 => absurd h1 g0) (fun h1 => ?_)
  refine pv_iload_0 (pc := 4) dJ3_checkIndex_8e157_4 ?_
  refine pv_iload_1 (pc := 5) dJ3_checkIndex_8e157_5 ?_
  refine pv_icmp_lt (pc := 6) (tgt := 16) dJ3_checkIndex_8e157_6 (by decide) (fun h6 => ?_) (fun h6 => absurd h6 (not_not_intro g1))
  refine pv_iload_0 (pc := 16) dJ3_checkIndex_8e157_16 ?_
  refine pv_iret (pc := 17) dJ3_checkIndex_8e157_17 rfl rfl ?_
  exact ⟨rfl, rfl, rfl, rfl, rfl⟩

set_option maxRecDepth 100000 in
set_option maxHeartbeats 4000000 in
theorem c_J0_checkIndex_df160 {G : pv_G} {d : Nat} {i n : Int32} {t : pv_T} {I : pv_I} {L : pv_L} {Rf : pv_R} (hF : fk_ok G) (h0 : ¬ i < 0) (h1 : i < n) (hd : 1 ≤ d) : pv_Mt G mJ0_checkIndex_df160 d 0 0 [.int i, .int n] t I L Rf (pv_is none t I L Rf) := by
  refine pv_mt mgJ0_checkIndex_df160.2.2.2.2.2 [.int i, .int n] rfl (Nat.le_of_ble_eq_true rfl) ?_
  refine pv_iload_0 (pc := 0) dJ0_checkIndex_df160_0 ?_
  refine pv_iload_1 (pc := 1) dJ0_checkIndex_df160_1 ?_
  refine pv_gsFormat (pc := 2) dJ0_checkIndex_df160_2 sl_J0_1053 ?_
  refine pv_callS1 (pc := 5) dJ0_checkIndex_df160_5 mgJ3_checkIndex_8e157 ls_J0_1059 (by omega) (c_J3_checkIndex_8e157 hF h0 h1) rfl rfl (by decide) ?_
  refine pv_pop (pc := 8) dJ0_checkIndex_df160_8 rfl ?_
  refine pv_vret (pc := 9) dJ0_checkIndex_df160_9 rfl ?_
  exact ⟨rfl, rfl, rfl, rfl, rfl⟩

set_option maxRecDepth 100000 in
set_option maxHeartbeats 4000000 in
theorem c_J1_charAt_3b067 {G : pv_G} {d : Nat} {i j : Nat} {x : Int32} {t : pv_T} {I : pv_I} {L : pv_L} {Rf : pv_R} (hF : fk_ok G) (hi : i < 3) (hx : (x_wd i)[j]? = some x) (hd : 2 ≤ d) : pv_Mt G mJ1_charAt_3b067 d 0 0 [.ref (5 + i), .int (Int32.ofNat j)] t I L Rf (pv_is (some (.int x)) t I L Rf) := by
  refine pv_mt mgJ1_charAt_3b067.2.2.2.2.2 [.ref (5 + i), .int (Int32.ofNat j)] rfl (Nat.le_of_ble_eq_true rfl) ?_
  refine pv_know (fun hpx => ?_)
  have hl := x_wd_at hpx hi
  have hjl := (List.getElem?_eq_some_iff.mp hx).1
  have hlen := x_wd_len hi
  have hb := x_wd_b hi x (List.mem_of_getElem? hx)
  have h0 : ¬ Int32.ofNat j < 0 := by rw [i_lt, i_of (by omega), Int32.toInt_zero]; omega
  have h1 : Int32.ofNat j < Int32.ofNat (x_wd i).length := by rw [i_lt, i_of (by omega), i_of (by omega)]; omega
  refine pv_iload_1 (pc := 0) dJ1_charAt_3b067_0 ?_
  refine pv_aload_0 (pc := 1) dJ1_charAt_3b067_1 ?_
  refine pv_alen (pc := 2) dJ1_charAt_3b067_2 hl.1 rfl ?_
  refine pv_callS0 (pc := 3) dJ1_charAt_3b067_3 mgJ0_checkIndex_df160 ls_J1_9 (by omega) (c_J0_checkIndex_df160 hF h0 h1 (by omega)) rfl rfl (by decide) ?_
  refine pv_aload_0 (pc := 6) dJ1_charAt_3b067_6 ?_
  refine pv_iload_1 (pc := 7) dJ1_charAt_3b067_7 ?_
  refine pv_baloadj (pc := 8) dJ1_charAt_3b067_8 (by omega) hl.1 rfl (i_in (k := j) (by omega) (by omega)) ?_
  refine pv_sipush (pc := 9) (v := 255) dJ1_charAt_3b067_9 (by decide) ?_
  refine pv_iand (pc := 12) dJ1_charAt_3b067_12 ?_
  refine pv_i2c (pc := 13) dJ1_charAt_3b067_13 ?_
  refine pv_topv2 (y := x) (by rw [i_nat (by omega), hl.2 j x hx, x_chr hb]) ?_
  refine pv_iret (pc := 14) dJ1_charAt_3b067_14 rfl (x_nar hb) ?_
  exact ⟨rfl, rfl, rfl, rfl, rfl⟩

set_option maxRecDepth 100000 in
set_option maxHeartbeats 4000000 in
theorem c_J0_coder_7d493 {G : pv_G} {d : Nat} {i : Nat} {t : pv_T} {I : pv_I} {L : pv_L} {Rf : pv_R} (hi : i < 3) : pv_Mt G mJ0_coder_7d493 d 0 0 [.ref (2 + i)] t I L Rf (pv_is (some (.int 0)) t I L Rf) := by
  refine pv_mt mgJ0_coder_7d493.2.2.2.2.2 [.ref (2 + i)] rfl (Nat.le_of_ble_eq_true rfl) ?_
  refine pv_gsCompact (pc := 0) dJ0_coder_7d493_0 sl_J0_38 ?_
  refine pv_if_eq (pc := 3) (tgt := 13) dJ0_coder_7d493_3 (by decide) (fun q => absurd q (by decide)) (fun _ => ?_)
  refine pv_aload_0 (pc := 6) dJ0_coder_7d493_6 ?_
  refine pv_strC (pc := 7) dJ0_coder_7d493_7 sl_J0_15 (by omega) ?_
  refine pv_goto (pc := 10) (tgt := 14) dJ0_coder_7d493_10 (by decide) ?_
  refine pv_iret (pc := 14) dJ0_coder_7d493_14 rfl rfl ?_
  exact ⟨rfl, rfl, rfl, rfl, rfl⟩

set_option maxRecDepth 100000 in
set_option maxHeartbeats 4000000 in
theorem c_J0_isLatin1_aae02 {G : pv_G} {d : Nat} {i : Nat} {t : pv_T} {I : pv_I} {L : pv_L} {Rf : pv_R} (hi : i < 3) : pv_Mt G mJ0_isLatin1_aae02 d 0 0 [.ref (2 + i)] t I L Rf (pv_is (some (.int 1)) t I L Rf) := by
  refine pv_mt mgJ0_isLatin1_aae02.2.2.2.2.2 [.ref (2 + i)] rfl (Nat.le_of_ble_eq_true rfl) ?_
  refine pv_gsCompact (pc := 0) dJ0_isLatin1_aae02_0 sl_J0_38 ?_
  refine pv_if_eq (pc := 3) (tgt := 17) dJ0_isLatin1_aae02_3 (by decide) (fun q => absurd q (by decide)) (fun _ => ?_)
  refine pv_aload_0 (pc := 6) dJ0_isLatin1_aae02_6 ?_
  refine pv_strC (pc := 7) dJ0_isLatin1_aae02_7 sl_J0_15 (by omega) ?_
  refine pv_if_ne (pc := 10) (tgt := 17) dJ0_isLatin1_aae02_10 (by decide) (fun q => absurd q (by decide)) (fun _ => ?_)
  refine pv_iconst (pc := 13) (v := 1) dJ0_isLatin1_aae02_13 (by decide) ?_
  refine pv_goto (pc := 14) (tgt := 18) dJ0_isLatin1_aae02_14 (by decide) ?_
  refine pv_iret (pc := 18) dJ0_isLatin1_aae02_18 rfl rfl ?_
  exact ⟨rfl, rfl, rfl, rfl, rfl⟩

set_option maxRecDepth 100000 in
set_option maxHeartbeats 4000000 in
theorem c_J0_charAt_5068e {G : pv_G} {d : Nat} {i j : Nat} {x : Int32} {t : pv_T} {I : pv_I} {L : pv_L} {Rf : pv_R} (hF : fk_ok G) (hi : i < 3) (hx : (x_wd i)[j]? = some x) (hd : 3 ≤ d) : pv_Mt G mJ0_charAt_5068e d 0 0 [.ref (2 + i), .int (Int32.ofNat j)] t I L Rf (pv_is (some (.int x)) t I L Rf) := by
  refine pv_mt mgJ0_charAt_5068e.2.2.2.2.2 [.ref (2 + i), .int (Int32.ofNat j)] rfl (Nat.le_of_ble_eq_true rfl) ?_
  refine pv_aload_0 (pc := 0) dJ0_charAt_5068e_0 ?_
  refine pv_callT1 (pc := 1) dJ0_charAt_5068e_1 mgJ0_isLatin1_aae02 lt_J0_492 (by omega) (by omega) (c_J0_isLatin1_aae02 (by omega)) rfl rfl (by decide) ?_
  refine pv_if_eq (pc := 4) (tgt := 16) dJ0_charAt_5068e_4 (by decide) (fun q => absurd q (by decide)) (fun _ => ?_)
  refine pv_aload_0 (pc := 7) dJ0_charAt_5068e_7 ?_
  refine pv_strV (pc := 8) dJ0_charAt_5068e_8 sl_J0_9 (by omega) ?_
  refine pv_iload_1 (pc := 11) dJ0_charAt_5068e_11 ?_
  refine pv_callS1 (pc := 12) dJ0_charAt_5068e_12 mgJ1_charAt_3b067 ls_J0_495 (by omega) (c_J1_charAt_3b067 hF hi hx (by omega)) rfl rfl (by decide) ?_
  refine pv_iret (pc := 15) dJ0_charAt_5068e_15 rfl (x_nar (x_wd_b hi x (List.mem_of_getElem? hx))) ?_
  exact ⟨rfl, rfl, rfl, rfl, rfl⟩

set_option maxRecDepth 100000 in
set_option maxHeartbeats 4000000 in
theorem c_J0_length_8abf5 {G : pv_G} {d : Nat} {i : Nat} {t : pv_T} {I : pv_I} {L : pv_L} {Rf : pv_R} (hi : i < 3) (hd : 1 ≤ d) : pv_Mt G mJ0_length_8abf5 d 0 0 [.ref (2 + i)] t I L Rf (pv_is (some (.int (Int32.ofNat (x_wd i).length))) t I L Rf) := by
  refine pv_mt mgJ0_length_8abf5.2.2.2.2.2 [.ref (2 + i)] rfl (Nat.le_of_ble_eq_true rfl) ?_
  refine pv_know (fun hpx => ?_)
  have hl := x_wd_at hpx hi
  refine pv_aload_0 (pc := 0) dJ0_length_8abf5_0 ?_
  refine pv_strV (pc := 1) dJ0_length_8abf5_1 sl_J0_9 (by omega) ?_
  refine pv_alen (pc := 4) dJ0_length_8abf5_4 hl.1 rfl ?_
  refine pv_aload_0 (pc := 5) dJ0_length_8abf5_5 ?_
  refine pv_callT1 (pc := 6) dJ0_length_8abf5_6 mgJ0_coder_7d493 lt_J0_335 (by omega) (by omega) (c_J0_coder_7d493 (by omega)) rfl rfl (Nat.le_of_ble_eq_true rfl) ?_
  refine pv_ishr (pc := 9) dJ0_length_8abf5_9 ?_
  refine pv_topv2 (y := Int32.ofNat (x_wd i).length) (x_shr _) ?_
  refine pv_iret (pc := 10) dJ0_length_8abf5_10 rfl rfl ?_
  exact ⟨rfl, rfl, rfl, rfl, rfl⟩

def tX (c : Nat → Int32) (e k r : Nat) (I : pv_I) (L : pv_L) : Prop := I (45 + 2 * k) 2 = Int32.ofNat e ∧ e ≤ 160 ∧ (∀ j, j < 160 → (L (46 + 2 * k) j).toInt32 = c j) ∧ I (45 + 2 * k) 4 = Int32.ofNat r ∧ r ≤ e
def sF (k : Nat) (I I1 : pv_I) : Prop := ∀ a j, ¬ (a = 45 + 2 * k ∧ 4 ≤ j) → I1 a j = I a j
theorem sF.rf {k : Nat} {I : pv_I} : sF k I I := fun _ _ _ => rfl
theorem sF.tr {k : Nat} {I I1 I2 : pv_I} (h : sF k I I1) (g : sF k I1 I2) : sF k I I2 := fun a j q => (g a j q).trans (h a j q)
theorem sF.u {k : Nat} {I I1 : pv_I} (h : sF k I I1) (j : Nat) (v : Int32) (hj : 4 ≤ j) : sF k I (pv_u I1 (45 + 2 * k) j v) := fun a i q => by rw [pv_u_o _ (fun z => q ⟨z.1, by omega⟩)]; exact h a i q
theorem tX.at {c : Nat → Int32} {e k r r1 : Nat} {I : pv_I} {L : pv_L} (h : tX c e k r I L) (hr : r1 ≤ e) : tX c e k r1 (pv_u I (45 + 2 * k) 4 (Int32.ofNat r1)) L := ⟨by rw [pv_u_o _ (by omega)]; exact h.1, h.2.1, h.2.2.1, by rw [pv_u_eq, if_pos rfl], hr⟩
theorem tX.fr {c : Nat → Int32} {e k r r1 : Nat} {I I1 : pv_I} {L : pv_L} (h : tX c e k r I L) (g : sF k I I1) (h4 : I1 (45 + 2 * k) 4 = Int32.ofNat r1) (hr : r1 ≤ e) : tX c e k r1 I1 L := ⟨(g _ _ (by omega)).trans h.1, h.2.1, h.2.2.1, h4, hr⟩
set_option maxRecDepth 100000 in
set_option maxHeartbeats 4000000 in
theorem c_X8_open {G : pv_G} {d : Nat} {k : Nat} {t : pv_T} {I : pv_I} {L : pv_L} {Rf : pv_R} (hT : sh_ok t) (hR : rf_ok Rf) (hk8 : k < 8)  : pv_Mt G mX8_open d 0 0 [.ref (45 + 2 * k)] t I L Rf (pv_is none t (pv_u (pv_u I (45 + 2 * k) 4 0) (45 + 2 * k) 6 (-1)) L Rf) := by
  refine pv_mt mgX8_open.2.2.2.2.2 [.ref (45 + 2 * k)] rfl (Nat.le_of_ble_eq_true rfl) ?_
  refine pv_aload_0 (pc := 0) dX8_open_0 ?_
  refine pv_iconst (pc := 1) (v := 0) dX8_open_1 (by decide) ?_
  refine pv_putI (pc := 2) dX8_open_2 fl_X8_42_8 (fun q => by cases q) ⟨rfl, rfl, rfl⟩ (by omega) (sx_sh hT hk8) ?_
  refine pv_aload_0 (pc := 5) dX8_open_5 ?_
  refine pv_iconst (pc := 6) (v := (-1)) dX8_open_6 (by decide) ?_
  refine pv_putI (pc := 7) dX8_open_7 fl_X8_22_8 (fun q => by cases q) ⟨rfl, rfl, rfl⟩ (by omega) (sx_sh hT hk8) ?_
  refine pv_vret (pc := 10) dX8_open_10 rfl ?_
  exact ⟨rfl, rfl, rfl, rfl, rfl⟩

set_option maxRecDepth 100000 in
set_option maxHeartbeats 4000000 in
theorem c_X8_isRead {G : pv_G} {d : Nat} {c : Nat → Int32} {e r : Nat} {k : Nat} {t : pv_T} {I : pv_I} {L : pv_L} {Rf : pv_R} (hT : sh_ok t) (hR : rf_ok Rf) (hk8 : k < 8) (hx : tX c e k r I L) : pv_Mt G mX8_isRead d 0 0 [.ref (45 + 2 * k)] t I L Rf (pv_is (some (.int (pv_b (!decide (r < e))))) t I L Rf) := by
  refine pv_mt mgX8_isRead.2.2.2.2.2 [.ref (45 + 2 * k)] rfl (Nat.le_of_ble_eq_true rfl) ?_
  refine pv_aload_0 (pc := 0) dX8_isRead_0 ?_
  refine pv_getI (pc := 1) dX8_isRead_1 fg_X8_42_8 rfl (by omega) (sx_sh hT hk8) ?_
  refine pv_aload_0 (pc := 4) dX8_isRead_4 ?_
  refine pv_getI (pc := 5) dX8_isRead_5 fg_X8_25_8 rfl (by omega) (sx_sh hT hk8) ?_
  refine pv_icmp_lt (pc := 8) (tgt := 15) dX8_isRead_8 (by decide) (fun h8 => ?_) (fun h8 => ?_)
  · refine pv_iconst (pc := 15) (v := 0) dX8_isRead_15 (by decide) ?_
    refine pv_iret (pc := 16) dX8_isRead_16 rfl rfl ?_
    have he := hx.2.1
    have hre := hx.2.2.2.2
    have f1 := h8
    rw [hx.1, hx.2.2.2.1, i_lt, i_of (by omega), i_of (by omega)] at f1
    first
      | (have f2 : r < e := by omega
         rw [decide_eq_true f2]; exact ⟨rfl, rfl, rfl, rfl, rfl⟩)
      | (have f2 : ¬ r < e := by omega
         rw [decide_eq_false f2]; exact ⟨rfl, rfl, rfl, rfl, rfl⟩)
  · refine pv_iconst (pc := 11) (v := 1) dX8_isRead_11 (by decide) ?_
    refine pv_goto (pc := 12) (tgt := 16) dX8_isRead_12 (by decide) ?_
    refine pv_iret (pc := 16) dX8_isRead_16 rfl rfl ?_
    have he := hx.2.1
    have hre := hx.2.2.2.2
    have f1 := h8
    rw [hx.1, hx.2.2.2.1, i_lt, i_of (by omega), i_of (by omega)] at f1
    first
      | (have f2 : r < e := by omega
         rw [decide_eq_true f2]; exact ⟨rfl, rfl, rfl, rfl, rfl⟩)
      | (have f2 : ¬ r < e := by omega
         rw [decide_eq_false f2]; exact ⟨rfl, rfl, rfl, rfl, rfl⟩)

set_option maxRecDepth 100000 in
set_option maxHeartbeats 4000000 in
theorem c_X8_fits {G : pv_G} {d : Nat} {p : Int32} {b : Bool} {k : Nat} {t : pv_T} {I : pv_I} {L : pv_L} {Rf : pv_R} (hT : sh_ok t) (hR : rf_ok Rf) (hk8 : k < 8)  : pv_Mt G mX8_fits d 0 0 [.ref (45 + 2 * k), .int p, .int (pv_b b)] t I L Rf (pv_is (some (.int (pv_b b))) t (if b = true then I else pv_u I (45 + 2 * k) 6 p) L Rf) := by
  refine pv_mt mgX8_fits.2.2.2.2.2 [.ref (45 + 2 * k), .int p, .int (pv_b b)] rfl (Nat.le_of_ble_eq_true rfl) ?_
  refine pv_iload_2 (pc := 0) dX8_fits_0 ?_
  refine pv_if_ne (pc := 1) (tgt := 9) dX8_fits_1 (by decide) (fun h1 => ?_) (fun h1 => ?_)
  · refine pv_iload_2 (pc := 9) dX8_fits_9 ?_
    refine pv_iret (pc := 10) dX8_fits_10 rfl (pv_b_nar _) ?_
    cases b with
    | true =>
      first
        | exact ⟨rfl, rfl, rfl, rfl, rfl⟩
        | exact absurd (by first | exact h1 | exact Classical.not_not.mp h1) (by decide)
    | false =>
      first
        | exact ⟨rfl, rfl, rfl, rfl, rfl⟩
        | exact absurd rfl h1
  · refine pv_aload_0 (pc := 4) dX8_fits_4 ?_
    refine pv_iload_1 (pc := 5) dX8_fits_5 ?_
    refine pv_putI (pc := 6) dX8_fits_6 fl_X8_22_8 (fun q => by cases q) ⟨rfl, rfl, rfl⟩ (by omega) (sx_sh hT hk8) ?_
    refine pv_iload_2 (pc := 9) dX8_fits_9 ?_
    refine pv_iret (pc := 10) dX8_fits_10 rfl (pv_b_nar _) ?_
    cases b with
    | true =>
      first
        | exact ⟨rfl, rfl, rfl, rfl, rfl⟩
        | exact absurd (by first | exact h1 | exact Classical.not_not.mp h1) (by decide)
    | false =>
      first
        | exact ⟨rfl, rfl, rfl, rfl, rfl⟩
        | exact absurd rfl h1

set_option maxRecDepth 100000 in
set_option maxHeartbeats 4000000 in
theorem c_reads_t {G : pv_G} {d : Nat} {c : Nat → Int32} {e r : Nat} {x : Int32} {k : Nat} {t : pv_T} {I : pv_I} {L : pv_L} {Rf : pv_R} (hT : sh_ok t) (hR : rf_ok Rf) (hk8 : k < 8) (hx : tX c e k r I L) (hr : r < e) (hc : c r = x) (hd : 3 ≤ d) : pv_Mt G mX8_reads d 0 0 [.ref (45 + 2 * k), .int x] t I L Rf (pv_is (some (.int 1)) t (pv_u I (45 + 2 * k) 4 (Int32.ofNat (r + 1))) L Rf) := by
  refine pv_mt mgX8_reads.2.2.2.2.2 [.ref (45 + 2 * k), .int x] rfl (Nat.le_of_ble_eq_true rfl) ?_
  have he := hx.2.1
  have hre := hx.2.2.2.2
  refine pv_aload_0 (pc := 0) dX8_reads_0 ?_
  refine pv_aload_0 (pc := 1) dX8_reads_1 ?_
  refine pv_getI (pc := 2) dX8_reads_2 fg_X8_42_8 rfl (by omega) (sx_sh hT hk8) ?_
  refine pv_topv2 (y := Int32.ofNat r) hx.2.2.2.1 ?_
  refine pv_aload_0 (pc := 5) dX8_reads_5 ?_
  refine pv_callV1 (pc := 6) dX8_reads_6 mgX8_isRead lv_X8_45_8 (by omega) (sx_sh hT hk8) (by omega) (c_X8_isRead hT hR hk8 hx) rfl rfl (Nat.le_of_ble_eq_true rfl) ?_
  refine pv_if_ne (pc := 9) (tgt := 28) dX8_reads_9 (by decide) (fun h9 => absurd h9 (not_not_intro (by rw [decide_eq_true hr]; rfl))) (fun h9 => ?_)
  refine pv_aload_0 (pc := 12) dX8_reads_12 ?_
  refine pv_aload_0 (pc := 13) dX8_reads_13 ?_
  refine pv_getI (pc := 14) dX8_reads_14 fg_X8_42_8 rfl (by omega) (sx_sh hT hk8) ?_
  refine pv_topv2 (y := Int32.ofNat r) hx.2.2.2.1 ?_
  refine pv_callV1 (pc := 17) dX8_reads_17 mgX8_asInt lv_X8_49_8 (by omega) (sx_sh hT hk8) (by omega) (c_asInt_at (v := c r) hT hR hk8 (by rw [hx.1, i_of (by omega)]; omega) (by rw [hx.1, i_of (by omega)]; omega) (hx.2.2.1 r (by omega))) rfl rfl (Nat.le_of_ble_eq_true rfl) ?_
  refine pv_iload_1 (pc := 20) dX8_reads_20 ?_
  refine pv_icmp_ne (pc := 21) (tgt := 28) dX8_reads_21 (by decide) (fun h21 => absurd h21 (not_not_intro hc)) (fun h21 => ?_)
  refine pv_iconst (pc := 24) (v := 1) dX8_reads_24 (by decide) ?_
  refine pv_goto (pc := 25) (tgt := 29) dX8_reads_25 (by decide) ?_
  refine pv_callV1 (pc := 29) dX8_reads_29 mgX8_fits lv_X8_53_8 (by omega) (sx_sh hT hk8) (by omega) (c_X8_fits (b := true) hT hR hk8) rfl rfl (by decide) ?_
  refine pv_if_ne (pc := 32) (tgt := 37) dX8_reads_32 (by decide) (fun _ => ?_) (fun q => absurd q (by decide))
  refine pv_aload_0 (pc := 37) dX8_reads_37 ?_
  refine pv_dup (pc := 38) dX8_reads_38 rfl ?_
  refine pv_getI (pc := 39) dX8_reads_39 fg_X8_42_8 rfl (by omega) (sx_sh hT hk8) ?_
  refine pv_iconst (pc := 42) (v := 1) dX8_reads_42 (by decide) ?_
  refine pv_iadd (pc := 43) dX8_reads_43 ?_
  refine pv_putI (pc := 44) dX8_reads_44 fl_X8_42_8 (fun q => by cases q) ⟨rfl, rfl, rfl⟩ (by omega) (sx_sh hT hk8) ?_
  refine pv_iconst (pc := 47) (v := 1) dX8_reads_47 (by decide) ?_
  refine pv_iret (pc := 48) dX8_reads_48 rfl rfl ?_
  refine ⟨rfl, rfl, ?_, rfl, rfl⟩
  show pv_u I (45 + 2 * k) 4 (I (45 + 2 * k) 4 + 1) = _
  rw [hx.2.2.2.1, i_inc]

set_option maxRecDepth 100000 in
set_option maxHeartbeats 4000000 in
theorem c_reads_e {G : pv_G} {d : Nat} {c : Nat → Int32} {e r : Nat} {x : Int32} {k : Nat} {t : pv_T} {I : pv_I} {L : pv_L} {Rf : pv_R} (hT : sh_ok t) (hR : rf_ok Rf) (hk8 : k < 8) (hx : tX c e k r I L) (hr : ¬ r < e) (hd : 3 ≤ d) : pv_Mt G mX8_reads d 0 0 [.ref (45 + 2 * k), .int x] t I L Rf (pv_is (some (.int 0)) t (pv_u I (45 + 2 * k) 6 (Int32.ofNat r)) L Rf) := by
  refine pv_mt mgX8_reads.2.2.2.2.2 [.ref (45 + 2 * k), .int x] rfl (Nat.le_of_ble_eq_true rfl) ?_
  have he := hx.2.1
  have hre := hx.2.2.2.2
  refine pv_aload_0 (pc := 0) dX8_reads_0 ?_
  refine pv_aload_0 (pc := 1) dX8_reads_1 ?_
  refine pv_getI (pc := 2) dX8_reads_2 fg_X8_42_8 rfl (by omega) (sx_sh hT hk8) ?_
  refine pv_topv2 (y := Int32.ofNat r) hx.2.2.2.1 ?_
  refine pv_aload_0 (pc := 5) dX8_reads_5 ?_
  refine pv_callV1 (pc := 6) dX8_reads_6 mgX8_isRead lv_X8_45_8 (by omega) (sx_sh hT hk8) (by omega) (c_X8_isRead hT hR hk8 hx) rfl rfl (Nat.le_of_ble_eq_true rfl) ?_
  refine pv_if_ne (pc := 9) (tgt := 28) dX8_reads_9 (by decide) (fun h9 => ?_) (fun h9 => absurd h9 (by rw [decide_eq_false hr]; decide))
  refine pv_iconst (pc := 28) (v := 0) dX8_reads_28 (by decide) ?_
  refine pv_callV1 (pc := 29) dX8_reads_29 mgX8_fits lv_X8_53_8 (by omega) (sx_sh hT hk8) (by omega) (c_X8_fits (b := false) hT hR hk8) rfl rfl (by decide) ?_
  refine pv_if_ne (pc := 32) (tgt := 37) dX8_reads_32 (by decide) (fun q => absurd q (by decide)) (fun _ => ?_)
  refine pv_iconst (pc := 35) (v := 0) dX8_reads_35 (by decide) ?_
  refine pv_iret (pc := 36) dX8_reads_36 rfl rfl ?_
  exact ⟨rfl, rfl, rfl, rfl, rfl⟩

set_option maxRecDepth 100000 in
set_option maxHeartbeats 4000000 in
theorem c_reads_n {G : pv_G} {d : Nat} {c : Nat → Int32} {e r : Nat} {x : Int32} {k : Nat} {t : pv_T} {I : pv_I} {L : pv_L} {Rf : pv_R} (hT : sh_ok t) (hR : rf_ok Rf) (hk8 : k < 8) (hx : tX c e k r I L) (hr : r < e) (hc : ¬ c r = x) (hd : 3 ≤ d) : pv_Mt G mX8_reads d 0 0 [.ref (45 + 2 * k), .int x] t I L Rf (pv_is (some (.int 0)) t (pv_u I (45 + 2 * k) 6 (Int32.ofNat r)) L Rf) := by
  refine pv_mt mgX8_reads.2.2.2.2.2 [.ref (45 + 2 * k), .int x] rfl (Nat.le_of_ble_eq_true rfl) ?_
  have he := hx.2.1
  have hre := hx.2.2.2.2
  refine pv_aload_0 (pc := 0) dX8_reads_0 ?_
  refine pv_aload_0 (pc := 1) dX8_reads_1 ?_
  refine pv_getI (pc := 2) dX8_reads_2 fg_X8_42_8 rfl (by omega) (sx_sh hT hk8) ?_
  refine pv_topv2 (y := Int32.ofNat r) hx.2.2.2.1 ?_
  refine pv_aload_0 (pc := 5) dX8_reads_5 ?_
  refine pv_callV1 (pc := 6) dX8_reads_6 mgX8_isRead lv_X8_45_8 (by omega) (sx_sh hT hk8) (by omega) (c_X8_isRead hT hR hk8 hx) rfl rfl (Nat.le_of_ble_eq_true rfl) ?_
  refine pv_if_ne (pc := 9) (tgt := 28) dX8_reads_9 (by decide) (fun h9 => absurd h9 (not_not_intro (by rw [decide_eq_true hr]; rfl))) (fun h9 => ?_)
  refine pv_aload_0 (pc := 12) dX8_reads_12 ?_
  refine pv_aload_0 (pc := 13) dX8_reads_13 ?_
  refine pv_getI (pc := 14) dX8_reads_14 fg_X8_42_8 rfl (by omega) (sx_sh hT hk8) ?_
  refine pv_topv2 (y := Int32.ofNat r) hx.2.2.2.1 ?_
  refine pv_callV1 (pc := 17) dX8_reads_17 mgX8_asInt lv_X8_49_8 (by omega) (sx_sh hT hk8) (by omega) (c_asInt_at (v := c r) hT hR hk8 (by rw [hx.1, i_of (by omega)]; omega) (by rw [hx.1, i_of (by omega)]; omega) (hx.2.2.1 r (by omega))) rfl rfl (Nat.le_of_ble_eq_true rfl) ?_
  refine pv_iload_1 (pc := 20) dX8_reads_20 ?_
  refine pv_icmp_ne (pc := 21) (tgt := 28) dX8_reads_21 (by decide) (fun h21 => ?_) (fun h21 => absurd h21 hc)
  refine pv_iconst (pc := 28) (v := 0) dX8_reads_28 (by decide) ?_
  refine pv_callV1 (pc := 29) dX8_reads_29 mgX8_fits lv_X8_53_8 (by omega) (sx_sh hT hk8) (by omega) (c_X8_fits (b := false) hT hR hk8) rfl rfl (by decide) ?_
  refine pv_if_ne (pc := 32) (tgt := 37) dX8_reads_32 (by decide) (fun q => absurd q (by decide)) (fun _ => ?_)
  refine pv_iconst (pc := 35) (v := 0) dX8_reads_35 (by decide) ?_
  refine pv_iret (pc := 36) dX8_reads_36 rfl rfl ?_
  exact ⟨rfl, rfl, rfl, rfl, rfl⟩

