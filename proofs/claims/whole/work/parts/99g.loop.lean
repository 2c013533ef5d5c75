/-! the law: its loop and its start -/
set_option maxRecDepth 100000 in
set_option maxHeartbeats 4000000 in
theorem law_sw {G : pv_G} {d mc ms bc bs n : Nat} {x : Int32} {J : pv_I} {K : pv_L} {t : pv_T} {I : pv_I} {L : pv_L} {Rf : pv_R} (hF : fk_ok G) (hd : 200 ≤ d) (hn : n + 9 ≤ G.2.2.2.1) (hN : G.2.2.2.1 ≤ 4608) (hO : pv_X G t I) (h : LW J K t I L Rf) (next : ∀ J K t I L Rf, LW J K t I L Rf → pv_V G mL_law d mc ms q_L bc bs 2221 [.ref 0, .ref 16, .ref 61, .int (Int32.ofNat n)] [] t I L Rf) : pv_V G mL_law d mc ms q_L (bc + 8) (bs + 40) 33 [.ref 0, .ref 16, .ref 61, .int (Int32.ofNat n)] [.int x] t I L Rf := by
  by_cases hh : x.toInt < 0 ∨ 41 < x.toInt
  · exact pv_tableOut (pc := 33) (tgt := 2221) dL_law_33 hh (by decide) (law_bud (by omega) (by omega) (next _ _ _ _ _ _ h))
  · obtain ⟨k, hk, hk42⟩ : ∃ k : Nat, x.toInt = (k : Int) ∧ k < 42 := ⟨x.toInt.toNat, by omega, by omega⟩
    match k, hk, hk42 with
    | 0, h0, _ => exact pv_tableIn (pc := 33) (off := 183) (tgt := 216) dL_law_33 (by rw [h0]; decide) (by rw [h0]; decide) (by rw [h0]; rfl) (by decide) (law_bud (by omega) (by omega) (lc_row hF hd hn hN hO h next))
    | 1, h0, _ => exact pv_tableIn (pc := 33) (off := 226) (tgt := 259) dL_law_33 (by rw [h0]; decide) (by rw [h0]; decide) (by rw [h0]; rfl) (by decide) (law_bud (by omega) (by omega) (lc_set hF hd hn hN hO h next))
    | 2, h0, _ => exact pv_tableIn (pc := 33) (off := 299) (tgt := 332) dL_law_33 (by rw [h0]; decide) (by rw [h0]; decide) (by rw [h0]; rfl) (by decide) (law_bud (by omega) (by omega) (lc_copy hF hd hn hN hO h next))
    | 3, h0, _ => exact pv_tableIn (pc := 33) (off := 362) (tgt := 395) dL_law_33 (by rw [h0]; decide) (by rw [h0]; decide) (by rw [h0]; rfl) (by decide) (law_bud (by omega) (by omega) (lc_element hF hd hn hN hO h next))
    | 4, h0, _ => exact pv_tableIn (pc := 33) (off := 396) (tgt := 429) dL_law_33 (by rw [h0]; decide) (by rw [h0]; decide) (by rw [h0]; rfl) (by decide) (law_bud (by omega) (by omega) (lc_show hF hd hn hN hO h next))
    | 5, h0, _ => exact pv_tableIn (pc := 33) (off := 429) (tgt := 462) dL_law_33 (by rw [h0]; decide) (by rw [h0]; decide) (by rw [h0]; rfl) (by decide) (law_bud (by omega) (by omega) (lc_holds hF hd hn hN hO h next))
    | 6, h0, _ => exact pv_tableIn (pc := 33) (off := 452) (tgt := 485) dL_law_33 (by rw [h0]; decide) (by rw [h0]; decide) (by rw [h0]; rfl) (by decide) (law_bud (by omega) (by omega) (lc_says hF hd hn hN hO h next))
    | 7, h0, _ => exact pv_tableIn (pc := 33) (off := 485) (tgt := 518) dL_law_33 (by rw [h0]; decide) (by rw [h0]; decide) (by rw [h0]; rfl) (by decide) (law_bud (by omega) (by omega) (lc_figure hF hd hn hN hO h next))
    | 8, h0, _ => exact pv_tableIn (pc := 33) (off := 528) (tgt := 561) dL_law_33 (by rw [h0]; decide) (by rw [h0]; decide) (by rw [h0]; rfl) (by decide) (law_bud (by omega) (by omega) (lc_figureOf hF hd hn hN hO h next))
    | 9, h0, _ => exact pv_tableIn (pc := 33) (off := 561) (tgt := 594) dL_law_33 (by rw [h0]; decide) (by rw [h0]; decide) (by rw [h0]; rfl) (by decide) (law_bud (by omega) (by omega) (lc_start hF hd hn hN hO h next))
    | 10, h0, _ => exact pv_tableIn (pc := 33) (off := 654) (tgt := 687) dL_law_33 (by rw [h0]; decide) (by rw [h0]; decide) (by rw [h0]; rfl) (by decide) (law_bud (by omega) (by omega) (lc_barn hF hd hn hN hO h next))
    | 11, h0, _ => exact pv_tableIn (pc := 33) (off := 677) (tgt := 710) dL_law_33 (by rw [h0]; decide) (by rw [h0]; decide) (by rw [h0]; rfl) (by decide) (law_bud (by omega) (by omega) (lc_fault hF hd hn hN hO h next))
    | 12, h0, _ => exact pv_tableIn (pc := 33) (off := 690) (tgt := 723) dL_law_33 (by rw [h0]; decide) (by rw [h0]; decide) (by rw [h0]; rfl) (by decide) (law_bud (by omega) (by omega) (lc_now hF hd hn hN hO h next))
    | 13, h0, _ => exact pv_tableIn (pc := 33) (off := 714) (tgt := 747) dL_law_33 (by rw [h0]; decide) (by rw [h0]; decide) (by rw [h0]; rfl) (by decide) (law_bud (by omega) (by omega) (lc_stand hF hd hn hN hO h next))
    | 14, h0, _ => exact pv_tableIn (pc := 33) (off := 737) (tgt := 770) dL_law_33 (by rw [h0]; decide) (by rw [h0]; decide) (by rw [h0]; rfl) (by decide) (law_bud (by omega) (by omega) (lc_call hF hd hn hN hO h next))
    | 15, h0, _ => exact pv_tableIn (pc := 33) (off := 760) (tgt := 793) dL_law_33 (by rw [h0]; decide) (by rw [h0]; decide) (by rw [h0]; rfl) (by decide) (law_bud (by omega) (by omega) (lc_judge hF hd hn hN hO h next))
    | 16, h0, _ => exact pv_tableIn (pc := 33) (off := 793) (tgt := 826) dL_law_33 (by rw [h0]; decide) (by rw [h0]; decide) (by rw [h0]; rfl) (by decide) (law_bud (by omega) (by omega) (lc_told hF hd hn hN hO h next))
    | 17, h0, _ => exact pv_tableIn (pc := 33) (off := 837) (tgt := 870) dL_law_33 (by rw [h0]; decide) (by rw [h0]; decide) (by rw [h0]; rfl) (by decide) (law_bud (by omega) (by omega) (lc_dances hF hd hn hN hO h next))
    | 18, h0, _ => exact pv_tableIn (pc := 33) (off := 870) (tgt := 903) dL_law_33 (by rw [h0]; decide) (by rw [h0]; decide) (by rw [h0]; rfl) (by decide) (law_bud (by omega) (by omega) (lc_repeated hF hd hn hN hO h next))
    | 19, h0, _ => exact pv_tableIn (pc := 33) (off := 924) (tgt := 957) dL_law_33 (by rw [h0]; decide) (by rw [h0]; decide) (by rw [h0]; rfl) (by decide) (law_bud (by omega) (by omega) (lc_same hF hd hn hN hO h next))
    | 20, h0, _ => exact pv_tableIn (pc := 33) (off := 993) (tgt := 1026) dL_law_33 (by rw [h0]; decide) (by rw [h0]; decide) (by rw [h0]; rfl) (by decide) (law_bud (by omega) (by omega) (lc_undo hF hd hn hN hO h next))
    | 21, h0, _ => exact pv_tableIn (pc := 33) (off := 1007) (tgt := 1040) dL_law_33 (by rw [h0]; decide) (by rw [h0]; decide) (by rw [h0]; rfl) (by decide) (law_bud (by omega) (by omega) (lc_undoes hF hd hn hN hO h next))
    | 22, h0, _ => exact pv_tableIn (pc := 33) (off := 1060) (tgt := 1093) dL_law_33 (by rw [h0]; decide) (by rw [h0]; decide) (by rw [h0]; rfl) (by decide) (law_bud (by omega) (by omega) (lc_made hF hd hn hN hO h next))
    | 23, h0, _ => exact pv_tableIn (pc := 33) (off := 1195) (tgt := 1228) dL_law_33 (by rw [h0]; decide) (by rw [h0]; decide) (by rw [h0]; rfl) (by decide) (law_bud (by omega) (by omega) (lc_least hF hd hn hN hO h next))
    | 24, h0, _ => exact pv_tableIn (pc := 33) (off := 1298) (tgt := 1331) dL_law_33 (by rw [h0]; decide) (by rw [h0]; decide) (by rw [h0]; rfl) (by decide) (law_bud (by omega) (by omega) (lc_cheapest hF hd hn hN hO h next))
    | 25, h0, _ => exact pv_tableIn (pc := 33) (off := 1437) (tgt := 1470) dL_law_33 (by rw [h0]; decide) (by rw [h0]; decide) (by rw [h0]; rfl) (by decide) (law_bud (by omega) (by omega) (lc_side hF hd hn hN hO h next))
    | 26, h0, _ => exact pv_tableIn (pc := 33) (off := 1541) (tgt := 1574) dL_law_33 (by rw [h0]; decide) (by rw [h0]; decide) (by rw [h0]; rfl) (by decide) (law_bud (by omega) (by omega) (lc_over hF hd hn hN hO h next))
    | 27, h0, _ => exact pv_tableIn (pc := 33) (off := 1645) (tgt := 1678) dL_law_33 (by rw [h0]; decide) (by rw [h0]; decide) (by rw [h0]; rfl) (by decide) (law_bud (by omega) (by omega) (lc_closed hF hd hn hN hO h next))
    | 28, h0, _ => exact pv_tableIn (pc := 33) (off := 1684) (tgt := 1717) dL_law_33 (by rw [h0]; decide) (by rw [h0]; decide) (by rw [h0]; rfl) (by decide) (law_bud (by omega) (by omega) (lc_coloured hF hd hn hN hO h next))
    | 29, h0, _ => exact pv_tableIn (pc := 33) (off := 1708) (tgt := 1741) dL_law_33 (by rw [h0]; decide) (by rw [h0]; decide) (by rw [h0]; rfl) (by decide) (law_bud (by omega) (by omega) (lc_forgot hF hd hn hN hO h next))
    | 30, h0, _ => exact pv_tableIn (pc := 33) (off := 1741) (tgt := 1774) dL_law_33 (by rw [h0]; decide) (by rw [h0]; decide) (by rw [h0]; rfl) (by decide) (law_bud (by omega) (by omega) (lc_may hF hd hn hN hO h next))
    | 31, h0, _ => exact pv_tableIn (pc := 33) (off := 1785) (tgt := 1818) dL_law_33 (by rw [h0]; decide) (by rw [h0]; decide) (by rw [h0]; rfl) (by decide) (law_bud (by omega) (by omega) (lc_kept hF hd hn hN hO h next))
    | 32, h0, _ => exact pv_tableIn (pc := 33) (off := 1848) (tgt := 1881) dL_law_33 (by rw [h0]; decide) (by rw [h0]; decide) (by rw [h0]; rfl) (by decide) (law_bud (by omega) (by omega) (lc_lot hF hd hn hN hO h next))
    | 33, h0, _ => exact pv_tableIn (pc := 33) (off := 1951) (tgt := 1984) dL_law_33 (by rw [h0]; decide) (by rw [h0]; decide) (by rw [h0]; rfl) (by decide) (law_bud (by omega) (by omega) (lc_bag hF hd hn hN hO h next))
    | 34, h0, _ => exact pv_tableIn (pc := 33) (off := 2004) (tgt := 2037) dL_law_33 (by rw [h0]; decide) (by rw [h0]; decide) (by rw [h0]; rfl) (by decide) (law_bud (by omega) (by omega) (lc_frees hF hd hn hN hO h next))
    | 35, h0, _ => exact pv_tableIn (pc := 33) (off := 2027) (tgt := 2060) dL_law_33 (by rw [h0]; decide) (by rw [h0]; decide) (by rw [h0]; rfl) (by decide) (law_bud (by omega) (by omega) (lc_draws hF hd hn hN hO h next))
    | 36, h0, _ => exact pv_tableIn (pc := 33) (off := 2050) (tgt := 2083) dL_law_33 (by rw [h0]; decide) (by rw [h0]; decide) (by rw [h0]; rfl) (by decide) (law_bud (by omega) (by omega) (lc_seed hF hd hn hN hO h next))
    | 37, h0, _ => exact pv_tableIn (pc := 33) (off := 2073) (tgt := 2106) dL_law_33 (by rw [h0]; decide) (by rw [h0]; decide) (by rw [h0]; rfl) (by decide) (law_bud (by omega) (by omega) (lc_act hF hd hn hN hO h next))
    | 38, h0, _ => exact pv_tableIn (pc := 33) (off := 2116) (tgt := 2149) dL_law_33 (by rw [h0]; decide) (by rw [h0]; decide) (by rw [h0]; rfl) (by decide) (law_bud (by omega) (by omega) (lc_trace hF hd hn hN hO h next))
    | 39, h0, _ => exact pv_tableIn (pc := 33) (off := 2139) (tgt := 2172) dL_law_33 (by rw [h0]; decide) (by rw [h0]; decide) (by rw [h0]; rfl) (by decide) (law_bud (by omega) (by omega) (lc_image hF hd hn hN hO h next))
    | 40, h0, _ => exact pv_tableIn (pc := 33) (off := 2152) (tgt := 2185) dL_law_33 (by rw [h0]; decide) (by rw [h0]; decide) (by rw [h0]; rfl) (by decide) (law_bud (by omega) (by omega) (lc_restore hF hd hn hN hO h next))
    | 41, h0, _ => exact pv_tableIn (pc := 33) (off := 2165) (tgt := 2198) dL_law_33 (by rw [h0]; decide) (by rw [h0]; decide) (by rw [h0]; rfl) (by decide) (law_bud (by omega) (by omega) (lc_status hF hd hn hN hO h next))
    | k + 42, _, hx => exact absurd hx (by omega)
set_option maxRecDepth 100000 in
set_option maxHeartbeats 4000000 in
theorem law_head {G : pv_G} {d mc ms bc bs n : Nat} {t : pv_T} {I : pv_I} {L : pv_L} {Rf : pv_R} (hO : pv_X G t I) (hn : n ≤ G.2.2.2.1) (hN : G.2.2.2.1 ≤ 4608) (go : n + 9 ≤ G.2.2.2.1 → pv_V G mL_law d mc ms q_L bc bs 27 [.ref 0, .ref 16, .ref 61, .int (Int32.ofNat n)] [] t I L Rf) : pv_V G mL_law d mc ms q_L bc bs 18 [.ref 0, .ref 16, .ref 61, .int (Int32.ofNat n)] [] t I L Rf := by
  refine pv_iload_3 (pc := 18) dL_law_18 ?_
  refine pv_aload_0 (pc := 19) dL_law_19 ?_
  refine pv_alen (pc := 20) dL_law_20 (pl_sh hO) rfl ?_
  refine pv_bipush (pc := 21) (v := 9) dL_law_21 (by decide) ?_
  refine pv_isub (pc := 23) dL_law_23 ?_
  have e : (Int32.ofNat G.2.2.2.1 - 9).toInt = (G.2.2.2.1 : Int) - 9 := by
    rw [i_sub (by rw [i_of (by omega)]; omega) (by decide), i_of (by omega)]
    rfl
  refine pv_icmp_gt (pc := 24) (tgt := 2227) dL_law_24 (by decide) (fun q => ?_) (fun q => ?_)
  · refine pv_iconst (pc := 2227) (v := 1) dL_law_2227 (by decide) ?_
    exact pv_iret (pc := 2228) dL_law_2228 rfl rfl rfl
  · refine go ?_
    rw [i_lt, e, i_of (by omega)] at q
    omega
set_option maxRecDepth 100000 in
set_option maxHeartbeats 4000000 in
theorem law_loop {G : pv_G} {d mc ms : Nat} (hF : fk_ok G) (hd : 200 ≤ d) (hN : G.2.2.2.1 ≤ 4608) : ∀ (k n : Nat) (J : pv_I) (K : pv_L) (t : pv_T) (I : pv_I) (L : pv_L) (Rf : pv_R), n ≤ G.2.2.2.1 → G.2.2.2.1 < n + 9 * k + 9 → LW J K t I L Rf → pv_V G mL_law d mc ms q_L (8 * k) (40 * k) 18 [.ref 0, .ref 16, .ref 61, .int (Int32.ofNat n)] [] t I L Rf := by
  intro k
  induction k with
  | zero =>
    intro n J K t I L Rf hn hk h
    exact pv_in (fun hO => law_head hO hn hN (fun q => absurd q (by omega)))
  | succ k ih =>
    intro n J K t I L Rf hn hk h
    refine pv_in (fun hO => law_head hO hn hN (fun hn9 => ?_))
    refine pv_aload_0 (pc := 27) dL_law_27 ?_
    refine pv_iload_3 (pc := 28) dL_law_28 ?_
    refine pl_ia0 (pc := 29) dL_law_29 hO hn9 hN ?_
    refine pv_bipush (pc := 30) (v := 63) dL_law_30 (by decide) ?_
    refine pv_iand (pc := 32) dL_law_32 ?_
    refine law_bud (bc1 := 8 * k + 8) (bs1 := 40 * k + 40) (by omega) (by omega) (law_sw hF hd hn9 hN hO h ?_)
    intro J K t I L Rf h
    refine pv_iinc_3 (pc := 2221) (v := Int32.ofNat (n + 9)) dL_law_2221 ?_ (by decide) rfl ?_
    · rw [show Int32.ofInt 9 = Int32.ofNat 9 by decide]; exact i_add n 9
    · exact pv_goto (pc := 2224) (tgt := 18) dL_law_2224 (by decide) (ih (n + 9) J K t I L Rf hn9 (by omega) h)
set_option maxRecDepth 100000 in
set_option maxHeartbeats 4000000 in
theorem law_go {G : pv_G} {d mc ms : Nat} {I : pv_I} {L : pv_L} {Rf : pv_R} (hF : fk_ok G) (hd : 200 ≤ d) (hN : G.2.2.2.1 ≤ 4608) : pv_V G mL_law d mc ms q_L 4170 28080 0 [.ref 0, .retAddr 0, .retAddr 0, .retAddr 0] [] (pv_tl G 0) I L Rf := by
  refine pa_new (pc := 0) (k := 0) (A := 16) (bc := 4169) (bs := 28067) (r := (RX11, TX11, 13)) dL_law_0 rfl cl_L_7 in_X11 ii_X11 (by decide) rfl rfl ?_
  refine pv_dup (pc := 3) dL_law_3 rfl ?_
  refine pv_callI (bc := 4125) (bs := 22549) (mc1 := 44) (ms1 := 5518) (d1 := d - 1) (pc := 4) dL_law_4 mgX11_init li_L_9 (by omega) (c_ini_X11 (fun j => by rw [pv_ur_eq]) (by omega)) rfl rfl (Nat.le_of_ble_eq_true rfl) (fun v t I L Rf hq => ?_)
  obtain ⟨rfl, rfl, hx⟩ := hq
  refine pv_astore_1 (pc := 7) dL_law_7 (by decide) rfl ?_
  refine pa_new (pc := 8) (k := 45) (A := 61) (bc := 4124) (bs := 22488) (r := (RX12, TX12, 61)) dL_law_8 rfl cl_L_10 in_X12 ii_X12 (by decide) rfl rfl ?_
  refine pv_dup (pc := 11) dL_law_11 rfl ?_
  refine pv_callI (bc := 4096) (bs := 20480) (mc1 := 28) (ms1 := 2008) (d1 := d - 1) (pc := 12) dL_law_12 mgX12_init li_L_12 (by omega) (c_ini_X12 (fun j => by rw [pv_ur_eq]) (fun j => by rw [pv_ur_eq]) (by omega)) rfl rfl (Nat.le_of_ble_eq_true rfl) (fun v t I1 L1 Rf1 hq => ?_)
  obtain ⟨rfl, rfl, hk, hm⟩ := hq
  refine pv_astore_2 (pc := 15) dL_law_15 (by decide) rfl ?_
  refine pv_iconst (pc := 16) (v := 0) dL_law_16 (by decide) ?_
  refine pv_istore_3 (pc := 17) dL_law_17 (by decide) rfl ?_
  have h1 : x_at0 I1 L1 Rf1 := by
    refine hx.cg (fun a ha => ⟨?_, ?_, ?_⟩)
    · rw [(hk a ha).1, pv_ur_ne _ _ (by omega)]
    · rw [(hk a ha).2.1, pv_ur_ne _ _ (by omega)]
    · rw [(hk a ha).2.2, pv_ur_ne _ _ (by omega)]
  have hw : LW w_J0 w_K0 (pv_tl G 74) I1 L1 Rf1 := ⟨wf_0, rx_0 h1 hm, rm_0 hm, hm.2.2.2.2.1⟩
  exact law_bud (bc1 := 8 * 512) (bs1 := 40 * 512) (by decide) (by decide) (law_loop hF hd hN 512 0 w_J0 w_K0 _ _ _ _ (Nat.zero_le _) (by omega) hw)
