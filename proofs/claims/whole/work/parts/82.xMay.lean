/-! the class: forgot and may -/
theorem w_bars_x {J : pv_I} {K : pv_L} {t : pv_T} {I : pv_I} {L : pv_L} {Rf : pv_R} {s n : Int32} (hW : WF J K) (hX : RX J K t I L Rf) (h : w_bars J s n = 0) : vp_in s 8 ∧ s.toNatClampNeg < 8 ∧ 0 ≤ n.toInt ∧ n.toInt ≤ 160 ∧ n.toInt ≤ (I (45 + 2 * s.toNatClampNeg) 2).toInt ∧ (I (45 + 2 * s.toNatClampNeg) 2).toInt ≤ 160 ∧ ∀ j, j < 160 → L (46 + 2 * s.toNatClampNeg) j = K (1 + s.toNatClampNeg) j := by
  obtain ⟨h1, h2, h3⟩ := w_bars_0 hW h
  obtain ⟨g1, g2⟩ := w_bars_size hW hX h
  have h8 := (pv_in_lt h1).2.2.1
  refine ⟨h1, h8, h2, h3, g1, ?_, g2⟩
  rcases x_kind hW hX h8 with ⟨-, -, k, -⟩ | ⟨-, -, k, -, -, k6, -⟩ | ⟨-, -, k, -⟩
  · rw [k]; decide
  · rw [k]; exact k6.2
  · rw [k]; decide
def x_nf (C : Nat → Int64) (n : Int32) : Int32 := if 40 < n then 6 else if w_val C n.toNatClampNeg = true then (if 7 < w_thr C n.toNatClampNeg 0 then 7 else 0) else 6
theorem x_nf_c (C : Nat → Int64) (n : Int32) : x_nf C n = 0 ∨ x_nf C n = 6 ∨ x_nf C n = 7 := by
  unfold x_nf
  split
  · exact Or.inr (Or.inl rfl)
  · split
    · split
      · exact Or.inr (Or.inr rfl)
      · exact Or.inl rfl
    · exact Or.inr (Or.inl rfl)
theorem w_thr_s (C : Nat → Int64) : ∀ m i, w_thr C (m + 1) i = w_thr C m (i + 1) + (if (C i).toInt32 = 3 then 1 else 0) := fun _ _ => rfl
theorem gd_isN {p q : Int64} (h : s_isN p q) : gd (2 ^ 42) (p, q) := by
  obtain ⟨h1, h2, h3, h4, h5⟩ := h
  refine ⟨h1, by show (p.toInt.natAbs : Int) + q.toInt ≤ 2 ^ 42; omega, fun z => ?_, ?_⟩
  · rw [if_pos z] at h5; exact h5
  · show Int.gcd p.toInt q.toInt = 1
    split at h5
    · next z => rw [z, h5]; decide
    · exact h5
/-- the two ways come to the same -/
theorem forget_glue {C : Nat → Int64} {N : Nat} {p q : Int64} (hg : s_isN p q) (hv : w_val C N = true) : match c_fgt C (x_ok xM) N 0 [((p, q), 1)] with
    | none => w_fgt C N 0 p q [] = none
    | some cl1 => ∃ ml, w_fgt C N 0 p q [] = some ml ∧ cl1.length = ml.length ∧ (∀ y, y ∈ c_keys cl1 ↔ y ∈ ml) ∧ (∀ y ∈ c_keys cl1, x_P y) ∧ ml ≠ [] := by
  have hvals := (w_val_iff C N).mp hv
  have h0 : x_P (p, q) := by
    refine ⟨gd_isN hg, ?_⟩
    obtain ⟨h1, h2, h3, h4, -⟩ := hg
    unfold x_rm s_room
    simp only [Bool.and_eq_true, decide_eq_true_eq, Int64.le_iff_toInt_le, (show (1000000000000 : Int64).toInt = 1000000000000 from by decide), (show (-1000000000000 : Int64).toInt = -1000000000000 from by decide)]
    exact ⟨⟨h4, h3⟩, h2⟩
  have hE := c_fgt_E C (x_ok xM) x_P N (fun i x s hi hx hs => x_P_s hx (by
    have hc := w_val_c (hvals i hi).1 (hvals i hi).2
    rcases hs with ⟨rfl, h3⟩ | ⟨h3, hs⟩
    · rcases hc with q | q | q | q
      · exact Or.inl q
      · exact Or.inr (Or.inl q)
      · exact Or.inr (Or.inr q)
      · exact absurd q h3
    · rcases hs with q | q
      · exact Or.inl q
      · exact Or.inr (Or.inl q))) N 0 [((p, q), 1)] (by omega) (by simp [c_keys]) (fun x hx => by
        have e : x = (p, q) := by simpa [c_keys] using hx
        rw [e]; exact h0)
  have hw := w_fgt_E C N 0 p q []
  have hk : ∀ x : Int64 × Int64, x ∈ c_keys [((p, q), (1 : Int32))] ↔ x = (p, q) := fun x => by simp [c_keys]
  cases hr : c_fgt C (x_ok xM) N 0 [((p, q), 1)] with
  | none =>
    rw [hr] at hE
    obtain ⟨x, hx, hR⟩ := hE
    rw [(hk x).mp hx] at hR
    show w_fgt C N 0 p q [] = none
    rw [hw, hR, if_neg (by decide)]
  | some cl1 =>
    rw [hr] at hE
    obtain ⟨e1, e2, e3, e4⟩ := hE
    have hR := e1 (p, q) ((hk _).mpr rfl)
    have hm : ∀ y, y ∈ c_keys cl1 ↔ y ∈ x_dd [] (x_E C N 0 (p, q)) := by
      intro y
      rw [e3, x_dd_mem]
      exact ⟨fun ⟨x, hx, h⟩ => Or.inr ((hk x).mp hx ▸ h), fun h => ⟨(p, q), (hk _).mpr rfl, h.elim (fun q => (List.not_mem_nil q).elim) id⟩⟩
    have hl := nd_len e2 (x_dd_nd (x_E C N 0 (p, q)) [] List.nodup_nil) hm
    rw [c_keys_len] at hl
    refine ⟨_, by rw [hw, hR, if_pos rfl], hl, hm, e4, fun hnil => ?_⟩
    have h1 := fg_ne (show w_fgt C N 0 p q [] = some (x_dd [] (x_E C N 0 (p, q))) by rw [hw, hR, if_pos rfl])
    rw [hnil] at h1
    exact absurd h1 (by decide)

set_option maxRecDepth 100000 in
set_option maxHeartbeats 4000000 in
theorem l_nf {G : pv_G} {d : Nat} {s n : Int32} {C : Nat → Int64} {t : pv_T} {I : pv_I} {L : pv_L} {Rf : pv_R} (hT : sh_ok t) (hR : rf_ok Rf) (hs8 : s.toNatClampNeg < 8) (h0 : 0 ≤ n.toInt) (hz : n.toInt ≤ (I (45 + 2 * s.toNatClampNeg) 2).toInt) (hz2 : (I (45 + 2 * s.toNatClampNeg) 2).toInt ≤ 160) (hcell : ∀ j, j < 160 → L (46 + 2 * s.toNatClampNeg) j = C j) (h40 : ¬ 40 < n) (hd : 1 ≤ d) : ∀ (m i c : Nat) (l6 : Value), i + m = n.toNatClampNeg → w_val C i = true → c + w_thr C m i = w_thr C n.toNatClampNeg 0 → c ≤ i → pv_V G mX11_noForgotten d 0 0 (pv_is (some (.int (x_nf C n))) t I L Rf) 0 0 25 [.ref 16, .int s, .int n, .ref (45 + 2 * s.toNatClampNeg), .int (Int32.ofNat c), .int (Int32.ofNat i), l6] [] t I L Rf := by
  have nl := i_lit n
  intro m
  induction m with
  | zero =>
    intro i c l6 hi hv hc hci
    skip
    refine pv_iload_5 (pc := 25) dX11_noForgotten_25 ?_
    refine pv_iload_2 (pc := 27) dX11_noForgotten_27 ?_
    refine pv_icmp_ge (pc := 28) (tgt := 68) dX11_noForgotten_28 (by decide) (fun h28 => ?_) (fun h28 => absurd h28 (by have e0 := i_of (k := i) (by omega); simp only [i_lt]; omega))
    refine pv_iload_4 (pc := 68) dX11_noForgotten_68 ?_
    refine pv_bipush (pc := 70) (v := 7) dX11_noForgotten_70 (by decide) ?_
    refine pv_icmp_le (pc := 72) (tgt := 80) dX11_noForgotten_72 (by decide) (fun h72 => ?_) (fun h72 => ?_)
    · refine pv_iconst (pc := 80) (v := 0) dX11_noForgotten_80 (by decide) ?_
      refine pv_iret (pc := 81) dX11_noForgotten_81 rfl rfl ?_
      have e : x_nf C n = if 7 < w_thr C n.toNatClampNeg 0 then 7 else 0 := by
        unfold x_nf
        rw [if_neg h40, if_pos (by rw [show i = n.toNatClampNeg by omega] at hv; exact hv)]
      have e7 : (7 : Int32).toInt = 7 := by decide
      have ec := i_of (k := c) (by omega)
      have ht0 : w_thr C 0 i = 0 := rfl
      have f1 := h72
      rw [i_lt, e7, ec] at f1
      rw [e]
      first
        | (rw [if_pos (by omega)]; exact ⟨rfl, rfl, rfl, rfl, rfl⟩)
        | (rw [if_neg (by omega)]; exact ⟨rfl, rfl, rfl, rfl, rfl⟩)
    · refine pv_bipush (pc := 75) (v := 7) dX11_noForgotten_75 (by decide) ?_
      refine pv_goto (pc := 77) (tgt := 81) dX11_noForgotten_77 (by decide) ?_
      refine pv_iret (pc := 81) dX11_noForgotten_81 rfl rfl ?_
      have e : x_nf C n = if 7 < w_thr C n.toNatClampNeg 0 then 7 else 0 := by
        unfold x_nf
        rw [if_neg h40, if_pos (by rw [show i = n.toNatClampNeg by omega] at hv; exact hv)]
      have e7 : (7 : Int32).toInt = 7 := by decide
      have ec := i_of (k := c) (by omega)
      have ht0 : w_thr C 0 i = 0 := rfl
      have f1 := h72
      rw [i_lt, e7, ec] at f1
      rw [e]
      first
        | (rw [if_pos (by omega)]; exact ⟨rfl, rfl, rfl, rfl, rfl⟩)
        | (rw [if_neg (by omega)]; exact ⟨rfl, rfl, rfl, rfl, rfl⟩)
  | succ m ih =>
    intro i c l6 hi hv hc hci
    skip
    refine pv_iload_5 (pc := 25) dX11_noForgotten_25 ?_
    refine pv_iload_2 (pc := 27) dX11_noForgotten_27 ?_
    refine pv_icmp_ge (pc := 28) (tgt := 68) dX11_noForgotten_28 (by decide) (fun h28 => absurd h28 (by have e0 := i_of (k := i) (by omega); simp only [i_lt]; omega)) (fun h28 => ?_)
    refine pv_aload_3 (pc := 31) dX11_noForgotten_31 ?_
    refine pv_iload_5 (pc := 32) dX11_noForgotten_32 ?_
    refine pv_callV1 (pc := 34) dX11_noForgotten_34 mgX8_asInt lv_X11_398_8 (by omega) (sx_sh hT hs8) (by omega) (c_asInt_at (v := (C i).toInt32) hT hR hs8 (by omega) hz2 (by rw [hcell _ (by omega)])) rfl rfl (by decide) ?_
    refine pv_istore_6 (pc := 37) dX11_noForgotten_37 (by decide) rfl ?_
    have hvi : ∀ h : ¬ (¬ (C i).toInt32 < 0 ∧ ¬ 3 < (C i).toInt32), x_nf C n = 6 := fun h => by
      unfold x_nf
      rw [if_neg h40, if_neg (fun q => h ((w_val_iff C _).mp q i (by omega)))]
    refine pv_iload_6 (pc := 39) dX11_noForgotten_39 ?_
    refine pv_if_lt (pc := 41) (tgt := 50) dX11_noForgotten_41 (by decide) (fun h41 => ?_) (fun h41 => ?_)
    · refine pv_bipush (pc := 50) (v := 6) dX11_noForgotten_50 (by decide) ?_
      refine pv_iret (pc := 52) dX11_noForgotten_52 rfl rfl ?_
      have f6 : x_nf C n = 6 := hvi (by
        first
          | (have f1 := h41; exact fun q => q.1 (by first | exact f1 | exact Classical.not_not.mp f1))
          | (have f1 := h47; exact fun q => q.2 (by first | exact f1 | exact Classical.not_not.mp f1)))
      rw [f6]
      exact ⟨rfl, rfl, rfl, rfl, rfl⟩
    · refine pv_iload_6 (pc := 44) dX11_noForgotten_44 ?_
      refine pv_iconst (pc := 46) (v := 3) dX11_noForgotten_46 (by decide) ?_
      refine pv_icmp_le (pc := 47) (tgt := 53) dX11_noForgotten_47 (by decide) (fun h47 => ?_) (fun h47 => ?_)
      · refine pv_iload_6 (pc := 53) dX11_noForgotten_53 ?_
        refine pv_iconst (pc := 55) (v := 3) dX11_noForgotten_55 (by decide) ?_
        refine pv_icmp_ne (pc := 56) (tgt := 62) dX11_noForgotten_56 (by decide) (fun h56 => ?_) (fun h56 => ?_)
        · refine pv_iinc_5 (pc := 62) (v := _ + 1) dX11_noForgotten_62 rfl (by decide) rfl ?_
          refine pv_goto (pc := 65) (tgt := 25) dX11_noForgotten_65 (by decide) ?_
          rw [i_inc]
          have hok : w_val C (i + 1) = true := by
            have f1 := h41
            have f2 : ¬ 3 < (C i).toInt32 := by first | exact h47 | exact Classical.not_not.mp h47
            show (w_val C i && !decide ((C i).toInt32 < 0) && !decide (3 < (C i).toInt32)) = true
            rw [hv, decide_eq_false f1, decide_eq_false f2]; rfl
          rw [w_thr_s] at hc
          first
            | (have f3 : ¬ (C i).toInt32 = 3 := h56
               rw [if_neg f3] at hc
               exact ih (i + 1) c _ (by omega) hok (by omega) (by omega))
            | (have f3 : (C i).toInt32 = 3 := by first | exact h56 | exact Classical.not_not.mp h56
               rw [if_pos f3] at hc
               rw [i_inc]
               exact ih (i + 1) (c + 1) _ (by omega) hok (by omega) (by omega))
        · refine pv_iinc_4 (pc := 59) (v := _ + 1) dX11_noForgotten_59 rfl (by decide) rfl ?_
          refine pv_iinc_5 (pc := 62) (v := _ + 1) dX11_noForgotten_62 rfl (by decide) rfl ?_
          refine pv_goto (pc := 65) (tgt := 25) dX11_noForgotten_65 (by decide) ?_
          rw [i_inc]
          have hok : w_val C (i + 1) = true := by
            have f1 := h41
            have f2 : ¬ 3 < (C i).toInt32 := by first | exact h47 | exact Classical.not_not.mp h47
            show (w_val C i && !decide ((C i).toInt32 < 0) && !decide (3 < (C i).toInt32)) = true
            rw [hv, decide_eq_false f1, decide_eq_false f2]; rfl
          rw [w_thr_s] at hc
          first
            | (have f3 : ¬ (C i).toInt32 = 3 := h56
               rw [if_neg f3] at hc
               exact ih (i + 1) c _ (by omega) hok (by omega) (by omega))
            | (have f3 : (C i).toInt32 = 3 := by first | exact h56 | exact Classical.not_not.mp h56
               rw [if_pos f3] at hc
               rw [i_inc]
               exact ih (i + 1) (c + 1) _ (by omega) hok (by omega) (by omega))
      · refine pv_bipush (pc := 50) (v := 6) dX11_noForgotten_50 (by decide) ?_
        refine pv_iret (pc := 52) dX11_noForgotten_52 rfl rfl ?_
        have f6 : x_nf C n = 6 := hvi (by
          first
            | (have f1 := h41; exact fun q => q.1 (by first | exact f1 | exact Classical.not_not.mp f1))
            | (have f1 := h47; exact fun q => q.2 (by first | exact f1 | exact Classical.not_not.mp f1)))
        rw [f6]
        exact ⟨rfl, rfl, rfl, rfl, rfl⟩

set_option maxRecDepth 100000 in
set_option maxHeartbeats 4000000 in
theorem c_X11_noForgotten {G : pv_G} {d : Nat} {s n : Int32} {C : Nat → Int64} {t : pv_T} {I : pv_I} {L : pv_L} {Rf : pv_R} (hT : sh_ok t) (hR : rf_ok Rf) (hs8 : s.toNatClampNeg < 8) (h0 : 0 ≤ n.toInt) (hz : n.toInt ≤ (I (45 + 2 * s.toNatClampNeg) 2).toInt) (hz2 : (I (45 + 2 * s.toNatClampNeg) 2).toInt ≤ 160) (hcell : ∀ j, j < 160 → L (46 + 2 * s.toNatClampNeg) j = C j) (hin : vp_in s 8) (hd : 3 ≤ d) : pv_Mt G mX11_noForgotten d 0 0 [.ref 16, .int s, .int n] t I L Rf (pv_is (some (.int (x_nf C n))) t I L Rf) := by
  refine pv_mt mgX11_noForgotten.2.2.2.2.2 [.ref 16, .int s, .int n, .retAddr 0, .retAddr 0, .retAddr 0, .retAddr 0] rfl (Nat.le_of_ble_eq_true rfl) ?_
  refine pv_aload_0 (pc := 0) dX11_noForgotten_0 ?_
  refine pv_iload_1 (pc := 1) dX11_noForgotten_1 ?_
  refine pv_callV1 (pc := 2) dX11_noForgotten_2 mgX11_shelfAt lv_X11_66_11 (by decide) (sx_16 hT) (by omega) (c_X11_shelfAt1 hT hR hin) rfl rfl (by decide) ?_
  refine pv_astore_3 (pc := 5) dX11_noForgotten_5 (by decide) rfl ?_
  refine pv_aload_3 (pc := 6) dX11_noForgotten_6 ?_
  refine pv_ifnull (pc := 7) dX11_noForgotten_7 ?_
  refine pv_iload_2 (pc := 10) dX11_noForgotten_10 ?_
  refine pv_bipush (pc := 11) (v := 40) dX11_noForgotten_11 (by decide) ?_
  refine pv_icmp_le (pc := 13) (tgt := 19) dX11_noForgotten_13 (by decide) (fun h13 => ?_) (fun h13 => ?_)
  · refine pv_iconst (pc := 19) (v := 0) dX11_noForgotten_19 (by decide) ?_
    refine pv_istore_4 (pc := 20) dX11_noForgotten_20 (by decide) rfl ?_
    refine pv_iconst (pc := 22) (v := 0) dX11_noForgotten_22 (by decide) ?_
    refine pv_istore_5 (pc := 23) dX11_noForgotten_23 (by decide) rfl ?_
    exact l_nf hT hR hs8 h0 hz hz2 hcell (by first | exact h13 | exact Classical.not_not.mp h13) (by omega) n.toNatClampNeg 0 0 _ (by omega) rfl (by omega) (Nat.le_refl _)
  · refine pv_bipush (pc := 16) (v := 6) dX11_noForgotten_16 (by decide) ?_
    refine pv_iret (pc := 18) dX11_noForgotten_18 rfl rfl ?_
    have e : x_nf C n = 6 := by unfold x_nf; rw [if_pos (by first | exact h13 | exact Classical.not_not.mp h13)]
    rw [e]
    exact ⟨rfl, rfl, rfl, rfl, rfl⟩

theorem c_nf_at {G : pv_G} {d : Nat} {s n : Int32} {C : Nat → Int64} {v : Int32} {t : pv_T} {I : pv_I} {L : pv_L} {Rf : pv_R} (hT : sh_ok t) (hR : rf_ok Rf) (hs8 : s.toNatClampNeg < 8) (h0 : 0 ≤ n.toInt) (hz : n.toInt ≤ (I (45 + 2 * s.toNatClampNeg) 2).toInt) (hz2 : (I (45 + 2 * s.toNatClampNeg) 2).toInt ≤ 160) (hcell : ∀ j, j < 160 → L (46 + 2 * s.toNatClampNeg) j = C j) (hin : vp_in s 8) (hv : x_nf C n = v) (hd : 3 ≤ d) : pv_Mt G mX11_noForgotten d 0 0 [.ref 16, .int s, .int n] t I L Rf (pv_is (some (.int v)) t I L Rf) := hv ▸ c_X11_noForgotten hT hR hs8 h0 hz hz2 hcell hin hd

theorem w_fbar_nf {J : pv_I} {K : pv_L} {s n : Int32} (hb : w_bars J s n = 0) : w_fbar J K s n = if x_nf (K (1 + s.toNatClampNeg)) n = 0 then (if (w_fgt (K (1 + s.toNatClampNeg)) n.toNatClampNeg 0 (K 0 0) (K 0 1) []).isSome = true then 0 else -7) else -(x_nf (K (1 + s.toNatClampNeg)) n) := by
  unfold w_fbar x_nf
  rw [if_pos hb]
  by_cases h1 : 40 < n
  · rw [if_pos h1, if_pos h1, if_neg (by decide)]
  · rw [if_neg h1, if_neg h1]
    by_cases h2 : w_val (K (1 + s.toNatClampNeg)) n.toNatClampNeg = true
    · rw [if_pos h2, if_pos h2]
      by_cases h3 : 7 < w_thr (K (1 + s.toNatClampNeg)) n.toNatClampNeg 0
      · rw [if_pos h3, if_pos h3, if_neg (by decide)]
      · rw [if_neg h3, if_neg h3, if_pos rfl]
    · rw [if_neg h2, if_neg h2, if_neg (by decide)]
theorem x_nf_0 {C : Nat → Int64} {n : Int32} (h : x_nf C n = 0) : ¬ 40 < n ∧ w_val C n.toNatClampNeg = true ∧ w_thr C n.toNatClampNeg 0 ≤ 7 := by
  unfold x_nf at h
  split at h
  · exact absurd h (by decide)
  · next h1 =>
    split at h
    · next h2 =>
      split at h
      · exact absurd h (by decide)
      · next h3 => exact ⟨h1, h2, by omega⟩
    · exact absurd h (by decide)
theorem x_neg2 (x : Int32) : - -x = x := by grind

theorem x_np0 {G : pv_G} {d : Nat} {J : pv_I} {K : pv_L} {s n : Int32} {t : pv_T} {I : pv_I} {L : pv_L} {Rf : pv_R} (hW : WF J K) (hX : RX J K t I L Rf) (hb : w_bars J s n = 0) (hd : 5 ≤ d) : pv_Mt G mX11_noPart d 0 0 [.ref 16, .int s, .int n] t I L Rf (pv_is (some (.int 0)) t I L Rf) := by
  have h := c_X11_noPart (G := G) (d := d) (s := s) (n := n) hW hX hd
  rw [hb] at h
  exact h
set_option maxRecDepth 100000 in
set_option maxHeartbeats 4000000 in
theorem c_X11_forgot {G : pv_G} {d : Nat} {J : pv_I} {K : pv_L} {s n : Int32} {t : pv_T} {I : pv_I} {L : pv_L} {Rf : pv_R} (hW : WF J K) (hX : RX J K t I L Rf)  (hd : 60 ≤ d) : pv_Mt G mX11_forgot d 0 0 [.ref 16, .int s, .int n] t I L Rf (qX (S_forgot J K s n) I L) := by
  refine pv_mt mgX11_forgot.2.2.2.2.2 [.ref 16, .int s, .int n, .retAddr 0, .retAddr 0] rfl (Nat.le_of_ble_eq_true rfl) ?_
  have hT := hX.1
  have hR := hX.2.1
  obtain ⟨-, -, ⟨xp, xq, xn, xst, xsp, xsd, xc⟩, xf, xs, xb, xi⟩ := id hX
  by_cases hb : w_bars J s n = 0
  · obtain ⟨hin, hs8, n0, n160, hz, hz2, hcell⟩ := w_bars_x hW hX hb
    rcases x_nf_c (K (1 + s.toNatClampNeg)) n with hnf | hnf | hnf
    · skip
      obtain ⟨f40, fval, hth⟩ := x_nf_0 hnf
      have nl := i_lit n
      have q40 : (40 : Int32).toInt = 40 := by decide
      have n40 : n.toInt ≤ 40 := by rw [i_lt, q40] at f40; omega
      have en : n = Int32.ofNat n.toNatClampNeg := by rw [← Int32.toInt_inj, i_of (by omega)]; omega
      have hglue := forget_glue (C := K (1 + s.toNatClampNeg)) (N := n.toNatClampNeg) hW.2.2.1 fval
      have hfb := w_fbar_nf (K := K) hb
      rw [if_pos hnf] at hfb
      refine pv_aload_0 (pc := 0) dX11_forgot_0 ?_
      refine pv_iload_1 (pc := 1) dX11_forgot_1 ?_
      refine pv_iload_2 (pc := 2) dX11_forgot_2 ?_
      refine pv_callV1 (pc := 3) dX11_forgot_3 mgX11_noPart lv_X11_203_11 (by decide) (sx_16 hT) (by omega) (x_np0 hW hX hb (by omega)) rfl rfl (by decide) ?_
      refine pv_istore_3 (pc := 6) dX11_forgot_6 (by decide) rfl ?_
      refine pv_iload_3 (pc := 7) dX11_forgot_7 ?_
      refine pv_if_ne (pc := 8) (tgt := 18) dX11_forgot_8 (by decide) (fun q => absurd q (by decide)) (fun _ => ?_)
      refine pv_aload_0 (pc := 11) dX11_forgot_11 ?_
      refine pv_iload_1 (pc := 12) dX11_forgot_12 ?_
      refine pv_iload_2 (pc := 13) dX11_forgot_13 ?_
      refine pv_callV1 (pc := 14) dX11_forgot_14 mgX11_noForgotten lv_X11_278_11 (by decide) (sx_16 hT) (by omega) (c_nf_at (C := K (1 + s.toNatClampNeg)) (v := 0) hT hR hs8 n0 hz hz2 hcell hin hnf (by omega)) rfl rfl (by decide) ?_
      refine pv_istore_3 (pc := 17) dX11_forgot_17 (by decide) rfl ?_
      refine pv_iload_3 (pc := 18) dX11_forgot_18 ?_
      refine pv_if_ne (pc := 19) (tgt := 31) dX11_forgot_19 (by decide) (fun q => absurd q (by decide)) (fun _ => ?_)
      refine pv_aload_0 (pc := 22) dX11_forgot_22 ?_
      refine pv_iload_1 (pc := 23) dX11_forgot_23 ?_
      refine pv_iload_2 (pc := 24) dX11_forgot_24 ?_
      refine pv_callVq (pc := 25) dX11_forgot_25 mgX11_forget lv_X11_281_11 (by decide) (sx_16 hT) (by omega) (c_X11_forget (N := n.toNatClampNeg) (C := K (1 + s.toNatClampNeg)) hT hR hin hs8 en (by omega) (by omega) hcell xp xq hth (by omega)) rfl rfl (by decide) (fun v t I L Rf hq => ?_)
      obtain ⟨hres, rfl, rfl, hk⟩ := hq
      refine pv_goto (pc := 28) (tgt := 32) dX11_forgot_28 (by decide) ?_
      rcases hres with ⟨rfl, hfin⟩ | ⟨z, cl1, rfl, hz35, hfin, hxx⟩
      · skip
        refine pv_astoreN_4 (pc := 32) dX11_forgot_32 (by decide) rfl ?_
        refine pv_aloadN_4 (pc := 34) dX11_forgot_34 ?_
        refine pv_ifnonnullN (pc := 36) dX11_forgot_36 ?_
        refine pv_aload_0 (pc := 39) dX11_forgot_39 ?_
        refine pv_iload_3 (pc := 40) dX11_forgot_40 ?_
        refine pv_if_ne (pc := 41) (tgt := 49) dX11_forgot_41 (by decide) (fun q => absurd q (by decide)) (fun _ => ?_)
        refine pv_bipush (pc := 44) (v := 7) dX11_forgot_44 (by decide) ?_
        refine pv_goto (pc := 46) (tgt := 50) dX11_forgot_46 (by decide) ?_
        refine pv_callV1 (pc := 50) dX11_forgot_50 mgX11_refuse lv_X11_70_11 (by decide) (sx_16 hT) (by omega) (c_X11_refuse (k := 7) hT hR (by decide) (by unfold vp_in; decide)) rfl rfl (by decide) ?_
        refine pv_iret (pc := 53) dX11_forgot_53 rfl rfl ?_
        rw [hfin] at hglue
        have hgl : w_fgt (K (1 + s.toNatClampNeg)) n.toNatClampNeg 0 (K 0 0) (K 0 1) [] = none := hglue
        refine qX.scrref hX hk (by decide : 7 < 8) ?_
        rw [hgl, if_neg (by decide)] at hfb
        unfold S_forgot
        rw [hfb, if_neg (by decide)]; rfl
      · have hcr : cr_ok t Rf z := ag_cr hT hR hz35
        refine pv_astore_4 (pc := 32) dX11_forgot_32 (by decide) rfl ?_
        refine pv_aload_4 (pc := 34) dX11_forgot_34 ?_
        refine pv_ifnonnull (pc := 36) (tgt := 54) dX11_forgot_36 (by decide) ?_
        refine pv_aload_4 (pc := 54) dX11_forgot_54 ?_
        refine pv_getI (pc := 56) dX11_forgot_56 fg_X11_285_2 rfl hcr.1 hcr.2.1 ?_
        refine pv_iret (pc := 59) dX11_forgot_59 rfl rfl ?_
        rw [hfin] at hglue
        obtain ⟨ml, g1, g2, g3, g4, g5⟩ := hglue
        refine qX.scr hX hk ?_
        rw [g1, if_pos (show (some ml).isSome = true from rfl)] at hfb
        have hml : w_fml J K s n = ml := by unfold w_fml; rw [g1]; rfl
        unfold S_forgot
        rw [if_pos hfb, hml, ← g2, hxx.1]
    · skip
      refine pv_aload_0 (pc := 0) dX11_forgot_0 ?_
      refine pv_iload_1 (pc := 1) dX11_forgot_1 ?_
      refine pv_iload_2 (pc := 2) dX11_forgot_2 ?_
      refine pv_callV1 (pc := 3) dX11_forgot_3 mgX11_noPart lv_X11_203_11 (by decide) (sx_16 hT) (by omega) (x_np0 hW hX hb (by omega)) rfl rfl (by decide) ?_
      refine pv_istore_3 (pc := 6) dX11_forgot_6 (by decide) rfl ?_
      refine pv_iload_3 (pc := 7) dX11_forgot_7 ?_
      refine pv_if_ne (pc := 8) (tgt := 18) dX11_forgot_8 (by decide) (fun q => absurd q (by decide)) (fun _ => ?_)
      refine pv_aload_0 (pc := 11) dX11_forgot_11 ?_
      refine pv_iload_1 (pc := 12) dX11_forgot_12 ?_
      refine pv_iload_2 (pc := 13) dX11_forgot_13 ?_
      refine pv_callV1 (pc := 14) dX11_forgot_14 mgX11_noForgotten lv_X11_278_11 (by decide) (sx_16 hT) (by omega) (c_nf_at (C := K (1 + s.toNatClampNeg)) (v := 6) hT hR hs8 n0 hz hz2 hcell hin hnf (by omega)) rfl rfl (by decide) ?_
      refine pv_istore_3 (pc := 17) dX11_forgot_17 (by decide) rfl ?_
      refine pv_iload_3 (pc := 18) dX11_forgot_18 ?_
      refine pv_if_ne (pc := 19) (tgt := 31) dX11_forgot_19 (by decide) (fun _ => ?_) (fun q => absurd q (by decide))
      refine pv_null (pc := 31) dX11_forgot_31 ?_
      refine pv_astoreN_4 (pc := 32) dX11_forgot_32 (by decide) rfl ?_
      refine pv_aloadN_4 (pc := 34) dX11_forgot_34 ?_
      refine pv_ifnonnullN (pc := 36) dX11_forgot_36 ?_
      refine pv_aload_0 (pc := 39) dX11_forgot_39 ?_
      refine pv_iload_3 (pc := 40) dX11_forgot_40 ?_
      refine pv_if_ne (pc := 41) (tgt := 49) dX11_forgot_41 (by decide) (fun _ => ?_) (fun q => absurd q (by decide))
      refine pv_iload_3 (pc := 49) dX11_forgot_49 ?_
      refine pv_callV1 (pc := 50) dX11_forgot_50 mgX11_refuse lv_X11_70_11 (by decide) (sx_16 hT) (by omega) (c_X11_refuse (k := 6) hT hR (by decide) (by unfold vp_in; decide)) rfl rfl (by decide) ?_
      refine pv_iret (pc := 53) dX11_forgot_53 rfl rfl ?_
      have e : w_fbar J K s n = -6 := by rw [w_fbar_nf hb, hnf, if_neg (by decide)]
      refine qX.ref hX (by decide : 6 < 8) ?_
      unfold S_forgot
      rw [e, if_neg (by decide)]; rfl
    · skip
      refine pv_aload_0 (pc := 0) dX11_forgot_0 ?_
      refine pv_iload_1 (pc := 1) dX11_forgot_1 ?_
      refine pv_iload_2 (pc := 2) dX11_forgot_2 ?_
      refine pv_callV1 (pc := 3) dX11_forgot_3 mgX11_noPart lv_X11_203_11 (by decide) (sx_16 hT) (by omega) (x_np0 hW hX hb (by omega)) rfl rfl (by decide) ?_
      refine pv_istore_3 (pc := 6) dX11_forgot_6 (by decide) rfl ?_
      refine pv_iload_3 (pc := 7) dX11_forgot_7 ?_
      refine pv_if_ne (pc := 8) (tgt := 18) dX11_forgot_8 (by decide) (fun q => absurd q (by decide)) (fun _ => ?_)
      refine pv_aload_0 (pc := 11) dX11_forgot_11 ?_
      refine pv_iload_1 (pc := 12) dX11_forgot_12 ?_
      refine pv_iload_2 (pc := 13) dX11_forgot_13 ?_
      refine pv_callV1 (pc := 14) dX11_forgot_14 mgX11_noForgotten lv_X11_278_11 (by decide) (sx_16 hT) (by omega) (c_nf_at (C := K (1 + s.toNatClampNeg)) (v := 7) hT hR hs8 n0 hz hz2 hcell hin hnf (by omega)) rfl rfl (by decide) ?_
      refine pv_istore_3 (pc := 17) dX11_forgot_17 (by decide) rfl ?_
      refine pv_iload_3 (pc := 18) dX11_forgot_18 ?_
      refine pv_if_ne (pc := 19) (tgt := 31) dX11_forgot_19 (by decide) (fun _ => ?_) (fun q => absurd q (by decide))
      refine pv_null (pc := 31) dX11_forgot_31 ?_
      refine pv_astoreN_4 (pc := 32) dX11_forgot_32 (by decide) rfl ?_
      refine pv_aloadN_4 (pc := 34) dX11_forgot_34 ?_
      refine pv_ifnonnullN (pc := 36) dX11_forgot_36 ?_
      refine pv_aload_0 (pc := 39) dX11_forgot_39 ?_
      refine pv_iload_3 (pc := 40) dX11_forgot_40 ?_
      refine pv_if_ne (pc := 41) (tgt := 49) dX11_forgot_41 (by decide) (fun _ => ?_) (fun q => absurd q (by decide))
      refine pv_iload_3 (pc := 49) dX11_forgot_49 ?_
      refine pv_callV1 (pc := 50) dX11_forgot_50 mgX11_refuse lv_X11_70_11 (by decide) (sx_16 hT) (by omega) (c_X11_refuse (k := 7) hT hR (by decide) (by unfold vp_in; decide)) rfl rfl (by decide) ?_
      refine pv_iret (pc := 53) dX11_forgot_53 rfl rfl ?_
      have e : w_fbar J K s n = -7 := by rw [w_fbar_nf hb, hnf, if_neg (by decide)]
      refine qX.ref hX (by decide : 7 < 8) ?_
      unfold S_forgot
      rw [e, if_neg (by decide)]; rfl
  · have hnb : ¬ -(w_bars J s n) = 0 := fun q => hb (w_bars_z q)
    refine pv_aload_0 (pc := 0) dX11_forgot_0 ?_
    refine pv_iload_1 (pc := 1) dX11_forgot_1 ?_
    refine pv_iload_2 (pc := 2) dX11_forgot_2 ?_
    refine pv_callV1 (pc := 3) dX11_forgot_3 mgX11_noPart lv_X11_203_11 (by decide) (sx_16 hT) (by omega) (c_X11_noPart hW hX (by omega)) rfl rfl (by decide) ?_
    refine pv_istore_3 (pc := 6) dX11_forgot_6 (by decide) rfl ?_
    refine pv_iload_3 (pc := 7) dX11_forgot_7 ?_
    refine pv_if_ne (pc := 8) (tgt := 18) dX11_forgot_8 (by decide) (fun h8 => ?_) (fun h8 => absurd h8 hnb)
    refine pv_iload_3 (pc := 18) dX11_forgot_18 ?_
    refine pv_if_ne (pc := 19) (tgt := 31) dX11_forgot_19 (by decide) (fun h19 => ?_) (fun h19 => absurd h19 hnb)
    refine pv_null (pc := 31) dX11_forgot_31 ?_
    refine pv_astoreN_4 (pc := 32) dX11_forgot_32 (by decide) rfl ?_
    refine pv_aloadN_4 (pc := 34) dX11_forgot_34 ?_
    refine pv_ifnonnullN (pc := 36) dX11_forgot_36 ?_
    refine pv_aload_0 (pc := 39) dX11_forgot_39 ?_
    refine pv_iload_3 (pc := 40) dX11_forgot_40 ?_
    refine pv_if_ne (pc := 41) (tgt := 49) dX11_forgot_41 (by decide) (fun h41 => ?_) (fun h41 => absurd h41 hnb)
    refine pv_iload_3 (pc := 49) dX11_forgot_49 ?_
    refine pv_callV1 (pc := 50) dX11_forgot_50 mgX11_refuse lv_X11_70_11 (by decide) (sx_16 hT) (by omega) (c_X11_refuse (k := (-(w_bars J s n)).toNatClampNeg) hT hR rfl (w_bars_in J s n)) rfl rfl (by decide) ?_
    refine pv_iret (pc := 53) dX11_forgot_53 rfl rfl ?_
    refine qX.ref hX (w_bars_n s n) ?_
    unfold S_forgot
    have e : w_fbar J K s n = w_bars J s n := by unfold w_fbar; rw [if_neg hb]
    rw [e, if_neg hb, x_neg2]

