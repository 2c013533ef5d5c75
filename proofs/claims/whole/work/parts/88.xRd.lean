/-! the class: a shelf is read as a text -/
/-- what the formatter of the library is: a reference or nothing, so of one slot -/
def fk_ok (G : pv_G) : Prop := ∀ r, pv_ent (G.2.2.2.2.2 :: r) = G.2.2.2.2.2 :: pv_ent r
def x_wd (i : Nat) : List Int32 := pv_sb.getD i []
theorem x_wd_len {i : Nat} (h : i < 3) : (x_wd i).length ≤ 6 ∧ 0 < (x_wd i).length := by
  have : i = 0 ∨ i = 1 ∨ i = 2 := by omega
  rcases this with rfl | rfl | rfl <;> decide
theorem x_wd_b {i : Nat} (h : i < 3) : ∀ x ∈ x_wd i, 0 ≤ x.toInt ∧ x.toInt ≤ 255 := by
  have : i = 0 ∨ i = 1 ∨ i = 2 := by omega
  rcases this with rfl | rfl | rfl <;> decide
theorem x_wd_at {G : pv_G} {t : pv_T} {I : pv_I} (h : pv_X G t I) {i : Nat} (hi : i < 3) : t.1 (5 + i) = some (.inl (.byte, (x_wd i).length)) ∧ ∀ j x, (x_wd i)[j]? = some x → I (5 + i) j = x := by
  have : i = 0 ∨ i = 1 ∨ i = 2 := by omega
  have key : ∀ (k : Nat) (l : List Int32), (∀ j, j < l.length → I k j = l.getD j 0) → ∀ j x, l[j]? = some x → I k j = x := by
    intro k l hl j x hx
    rw [hl j (List.getElem?_eq_some_iff.mp hx).1, List.getD_eq_getElem?_getD, hx]; rfl
  rcases this with rfl | rfl | rfl
  · exact ⟨(h 5 (by decide)).1, key 5 _ (fun j hj => (h 5 (by decide)).2 _ rfl j hj)⟩
  · exact ⟨(h 6 (by decide)).1, key 6 _ (fun j hj => (h 6 (by decide)).2 _ rfl j hj)⟩
  · exact ⟨(h 7 (by decide)).1, key 7 _ (fun j hj => (h 7 (by decide)).2 _ rfl j hj)⟩
theorem x_nch (x : Int32) (h : (x.toUInt32 % 65536).toInt32 = x) : narrow .char (.int x) = .int x := by
  show Value.int _ = Value.int x
  exact congrArg Value.int h
set_option maxRecDepth 100000 in
theorem x_ch2 : ∀ k, k < 256 → ((Int32.ofNat k).toUInt32 % 65536).toInt32 = Int32.ofNat k := by decide +kernel
set_option maxRecDepth 100000 in
theorem x_ch : ∀ k, k < 256 → (((Int32.ofNat k) &&& 255).toUInt32 % 65536).toInt32 = Int32.ofNat k := by decide +kernel
theorem x_chr {x : Int32} (h : 0 ≤ x.toInt ∧ x.toInt ≤ 255) : ((x &&& 255).toUInt32 % 65536).toInt32 = x := by
  have e : x = Int32.ofNat x.toNatClampNeg := by
    have l := i_lit x
    rw [← Int32.toInt_inj, i_of (by omega)]; omega
  have l := i_lit x
  rw [e]
  exact x_ch _ (by omega)
theorem x_nar {x : Int32} (h : 0 ≤ x.toInt ∧ x.toInt ≤ 255) : narrow .char (.int x) = .int x := by
  have l := i_lit x
  have e : x = Int32.ofNat x.toNatClampNeg := by rw [← Int32.toInt_inj, i_of (by omega)]; omega
  refine x_nch x ?_
  rw [e]
  exact x_ch2 _ (by omega)

set_option maxRecDepth 100000 in
set_option maxHeartbeats 4000000 in
theorem c_J3_checkIndex_8e157 {G : pv_G} {d : Nat} {i n : Int32} {t : pv_T} {I : pv_I} {L : pv_L} {Rf : pv_R} (hF : fk_ok G) (g0 : ¬ i < 0) (g1 : i < n) : pv_Mt G mJ3_checkIndex_8e157 d 0 0 [.int i, .int n, G.2.2.2.2.2] t I L Rf (pv_is (some (.int i)) t I L Rf) := by
  refine pv_mt mgJ3_checkIndex_8e157.2.2.2.2.2 [.int i, .int n, G.2.2.2.2.2] (by show .int i :: .int n :: pv_ent [G.2.2.2.2.2] ++ List.replicate (3 - (.int i :: .int n :: pv_ent [G.2.2.2.2.2]).length) (.retAddr 0) = _; rw [hF []]; rfl) (by show (.int i :: .int n :: pv_ent [G.2.2.2.2.2]).length ≤ 3; rw [hF []]; exact Nat.le_refl 3) ?_
  refine pv_iload_0 (pc := 0) dJ3_checkIndex_8e157_0 ?_
  refine pv_if_lt (pc := 1) (tgt := 9) dJ3_checkIndex_8e157_1 (by decide) (fun h1 => absurd h1 g0) (fun h1 => ?_)
  refine pv_iload_0 (pc := 4) dJ3_checkIndex_8e157_4 ?_
  refine pv_iload_1 (pc := 5) dJ3_checkIndex_8e157_5 ?_
  refine pv_icmp_lt (pc := 6) (tgt := 16) dJ3_checkIndex_8e157_6 (by decide) (fun h6 => ?_) (fun h6 => absurd h6 (not_not_intro g1))
  refine pv_iload_0 (pc := 16) dJ3_checkIndex_8e157_16 ?_
  refine pv_iret (pc := 17) dJ3_checkIndex_8e157_17 rfl rfl ?_
  exact ⟨rfl, rfl, rfl, rfl, rfl⟩

set_option maxRecDepth 100000 in
set_option maxHeartbeats 4000000 in
theorem c_J0_checkIndex_df160 {G : pv_G} {d : Nat} {i n : Int32} {t : pv_T} {I : pv_I} {L : pv_L} {Rf : pv_R} (hF : fk_ok G) (h0 : ¬ i < 0) (h1 : i < n) (hd : 1 ≤ d) : pv_Mt G mJ0_checkIndex_df160 d 0 0 [.int i, .int n] t I L Rf (pv_is none t I L Rf) := by
  refine pv_mt mgJ0_checkIndex_df160.2.2.2.2.2 [.int i, .int n] rfl (Nat.le_of_ble_eq_true rfl) ?_
  refine pv_iload_0 (pc := 0) dJ0_checkIndex_df160_0 ?_
  refine pv_iload_1 (pc := 1) dJ0_checkIndex_df160_1 ?_
  refine pv_gsFormat (pc := 2) dJ0_checkIndex_df160_2 sl_J0_1053 ?_
  refine pv_callS1 (pc := 5) dJ0_checkIndex_df160_5 mgJ3_checkIndex_8e157 ls_J0_1059 (by omega) (c_J3_checkIndex_8e157 hF h0 h1) rfl rfl (by decide) ?_
  refine pv_pop (pc := 8) dJ0_checkIndex_df160_8 rfl ?_
  refine pv_vret (pc := 9) dJ0_checkIndex_df160_9 rfl ?_
  exact ⟨rfl, rfl, rfl, rfl, rfl⟩

set_option maxRecDepth 100000 in
set_option maxHeartbeats 4000000 in
theorem c_J1_charAt_3b067 {G : pv_G} {d : Nat} {i j : Nat} {x : Int32} {t : pv_T} {I : pv_I} {L : pv_L} {Rf : pv_R} (hF : fk_ok G) (hi : i < 3) (hx : (x_wd i)[j]? = some x) (hd : 2 ≤ d) : pv_Mt G mJ1_charAt_3b067 d 0 0 [.ref (5 + i), .int (Int32.ofNat j)] t I L Rf (pv_is (some (.int x)) t I L Rf) := by
  refine pv_mt mgJ1_charAt_3b067.2.2.2.2.2 [.ref (5 + i), .int (Int32.ofNat j)] rfl (Nat.le_of_ble_eq_true rfl) ?_
  refine pv_know (fun hpx => ?_)
  have hl := x_wd_at hpx hi
  have hjl := (List.getElem?_eq_some_iff.mp hx).1
  have hlen := x_wd_len hi
  have hb := x_wd_b hi x (List.mem_of_getElem? hx)
  have h0 : ¬ Int32.ofNat j < 0 := by rw [i_lt, i_of (by omega), Int32.toInt_zero]; omega
  have h1 : Int32.ofNat j < Int32.ofNat (x_wd i).length := by rw [i_lt, i_of (by omega), i_of (by omega)]; omega
  refine pv_iload_1 (pc := 0) dJ1_charAt_3b067_0 ?_
  refine pv_aload_0 (pc := 1) dJ1_charAt_3b067_1 ?_
  refine pv_alen (pc := 2) dJ1_charAt_3b067_2 hl.1 rfl ?_
  refine pv_callS0 (pc := 3) dJ1_charAt_3b067_3 mgJ0_checkIndex_df160 ls_J1_9 (by omega) (c_J0_checkIndex_df160 hF h0 h1 (by omega)) rfl rfl (by decide) ?_
  refine pv_aload_0 (pc := 6) dJ1_charAt_3b067_6 ?_
  refine pv_iload_1 (pc := 7) dJ1_charAt_3b067_7 ?_
  refine pv_baloadj (pc := 8) dJ1_charAt_3b067_8 (by omega) hl.1 rfl (i_in (k := j) (by omega) (by omega)) ?_
  refine pv_sipush (pc := 9) (v := 255) dJ1_charAt_3b067_9 (by decide) ?_
  refine pv_iand (pc := 12) dJ1_charAt_3b067_12 ?_
  refine pv_i2c (pc := 13) dJ1_charAt_3b067_13 ?_
  refine pv_topv2 (y := x) (by rw [i_nat (by omega), hl.2 j x hx, x_chr hb]) ?_
  refine pv_iret (pc := 14) dJ1_charAt_3b067_14 rfl (x_nar hb) ?_
  exact ⟨rfl, rfl, rfl, rfl, rfl⟩

