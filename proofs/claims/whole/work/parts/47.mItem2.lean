/-! an item of a barn -/
def q_item (B : BR) (t : pv_T) (I : pv_I) (L : pv_L) (Rf : pv_R) : pv_Q := fun v t1 I1 L1 R1 => t1 = t ∧ R1 = Rf ∧ bI I I1 ∧ bL L L1 ∧ ((∃ r1 J1 K1, B = .ok (r1, J1, K1) ∧ v = some (.int 1) ∧ RM J1 K1 I1 L1 ∧ I1 61 24 = Int32.ofNat r1) ∨ (∃ x, B = .error x ∧ v = some (.int 0) ∧ I1 61 27 = Int32.ofNat x))
theorem b_num_top {c : Nat → Int32} {e r : Nat} {low top : Int32} {p : Nat × Int32} (h : b_num c e r low top = some p) : low ≤ p.2 ∧ p.2 ≤ top ∧ b_isD c e r = true ∧ p = b_dg c e 3 r 0 := by
  unfold b_num at h
  split at h
  · rename_i hd
    split at h
    · rename_i hq
      cases h
      exact ⟨hq.1, hq.2, hd, rfl⟩
    · cases h
  · cases h
theorem b_dg_le (c : Nat → Int32) (e : Nat) : ∀ m r x, r ≤ (b_dg c e m r x).1 ∧ (r ≤ e → (b_dg c e m r x).1 ≤ e)
  | 0, r, x => ⟨Nat.le_refl _, fun h => h⟩
  | m + 1, r, x => by
    rw [b_dg]
    split
    · rename_i h
      have h1 := b_isD_e h
      have ih := b_dg_le c e m (r + 1) (10 * x + c r - 48)
      exact ⟨by omega, fun _ => ih.2 (by omega)⟩
    · exact ⟨Nat.le_refl _, fun h => h⟩
theorem b_num_le {c : Nat → Int32} {e r : Nat} {low top : Int32} {p : Nat × Int32} (h : b_num c e r low top = some p) : r < p.1 ∧ p.1 ≤ e := by
  obtain ⟨_, _, hd, rfl⟩ := b_num_top h
  have h1 := b_isD_e hd
  have ih := b_dg_le c e 2 (r + 1) (10 * 0 + c r - 48)
  rw [show (3 : Nat) = 2 + 1 from rfl, b_dg_s hd]
  exact ⟨by omega, ih.2 (by omega)⟩
theorem q_bad {B : BR} {x : Nat} (hB : B = .error x) {t : pv_T} {I I1 : pv_I} {L L1 : pv_L} {Rf : pv_R} (h : bI I I1) (g : bL L L1) (h2 : I1 61 27 = Int32.ofNat x) : q_item B t I L Rf (some (.int 0)) t I1 L1 Rf := ⟨rfl, rfl, h, g, Or.inr ⟨x, hB, rfl, h2⟩⟩
theorem q_good {B : BR} {x : Nat} {J1 : pv_I} {K1 : pv_L} (hB : B = .ok (x, J1, K1)) {t : pv_T} {I I1 : pv_I} {L L1 : pv_L} {Rf : pv_R} (h : bI I I1) (g : bL L L1) (hm : RM J1 K1 I1 L1) (h2 : I1 61 24 = Int32.ofNat x) : q_item B t I L Rf (some (.int 1)) t I1 L1 Rf := ⟨rfl, rfl, h, g, Or.inl ⟨x, J1, K1, hB, rfl, hm, h2⟩⟩
/-- the state within an item -/
def b_in (c : Nat → Int32) (e : Nat) (s : Int32) (J : pv_I) (K : pv_L) (I : pv_I) (L : pv_L) (I1 : pv_I) (L1 : pv_L) (r : Nat) : Prop := RM J K I1 L1 ∧ b_tx c e s I1 L1 ∧ bI I I1 ∧ bL L L1 ∧ I1 61 24 = Int32.ofNat r ∧ r ≤ e
theorem b_in.n {c : Nat → Int32} {e : Nat} {s : Int32} {J : pv_I} {K : pv_L} {I I1 I2 : pv_I} {L L1 : pv_L} {r x : Nat} (h : b_in c e s J K I L I1 L1 r) (g : bN I1 I2) (h2 : I2 61 24 = Int32.ofNat x) (hx : x ≤ e) : b_in c e s J K I L I2 L1 x := ⟨h.1.scr g.kS, g.tx h.2.1, h.2.2.1.tr g.bI, h.2.2.2.1, h2, hx⟩
theorem b_in.t {c : Nat → Int32} {e : Nat} {s : Int32} {J : pv_I} {K : pv_L} {I I1 : pv_I} {L L1 : pv_L} {r : Nat} (h : b_in c e s J K I L I1 L1 r) (i : Nat) (v : Int32) : b_in c e s J K I L (pv_u I1 75 i v) L1 r := ⟨h.1.scr (kS.rf.uI 75 i v (by omega)), bx_tx (bI.rf.u 75 i v (by omega)) bL.rf h.2.1, h.2.2.1.u 75 i v (by omega), h.2.2.2.1, h.2.2.2.2.1, h.2.2.2.2.2⟩
theorem b_in.p {c : Nat → Int32} {e : Nat} {s : Int32} {J : pv_I} {K : pv_L} {I I1 : pv_I} {L L1 : pv_L} {r : Nat} (h : b_in c e s J K I L I1 L1 r) (v : Int32) (x : Nat) (hv : v = Int32.ofNat x) (hx : x ≤ e) : b_in c e s J K I L (pv_u I1 61 24 v) L1 x := h.n (bN.rf.u 24 v (by omega)) hv hx

set_option maxRecDepth 100000 in
set_option maxHeartbeats 4000000 in
theorem l_fg3 {G : pv_G} {d : Nat} {c : Nat → Int32} {e : Nat} {s first : Int32} {B : BR} {J : pv_I} {K : pv_L} {t : pv_T} {I : pv_I} {L : pv_L} {Rf : pv_R} (hT : sh_ok t) (hR : rf_ok Rf) (hW : WF J K) (hd : 8 ≤ d) (he : e ≤ 160) {k a z : Int32} {r : Nat} {I1 : pv_I} {L1 : pv_L} {l5 : Value} (hi : b_in c e s J K I L I1 L1 r) (h750 : I1 75 0 = k) (h751 : I1 75 1 = a) (h752 : I1 75 2 = z) (h8 : (J 0 0).toInt < 8) (hB : B = .ok (r, S_adds J k a z, K)) :
    pv_V G mX12_item d 0 0 (q_item B t I L Rf) 0 0 96 [.ref 61, .int first, .int 0, .int 3, .int 3, l5] [] t I1 L1 Rf := by
  refine pv_iload_4 (pc := 96) dX12_item_96 ?_
  refine pv_iload_3 (pc := 98) dX12_item_98 ?_
  refine pv_icmp_ge (pc := 99) (tgt := 273) dX12_item_99 (by decide) (fun _ => ?_) (fun q => absurd q (by decide))
  refine pv_iload_2 (pc := 273) dX12_item_273 ?_
  refine pv_if_ne (pc := 274) (tgt := 300) dX12_item_274 (by decide) (fun q => absurd q (by decide)) (fun _ => ?_)
  refine pv_aload_0 (pc := 277) dX12_item_277 ?_
  refine pv_aload_0 (pc := 278) dX12_item_278 ?_
  refine pv_getR (pc := 279) dX12_item_279 fg_X12_61_12 rfl (by decide) (sx_61 hT) (rx_61_22 hR) ?_
  refine pv_iconst (pc := 282) (v := 0) dX12_item_282 (by decide) ?_
  refine pv_ialoadj (pc := 283) dX12_item_283 (sx_75 hT) (j := 0) (by decide) (by unfold vp_in; decide) ?_
  refine pv_aload_0 (pc := 284) dX12_item_284 ?_
  refine pv_getR (pc := 285) dX12_item_285 fg_X12_61_12 rfl (by decide) (sx_61 hT) (rx_61_22 hR) ?_
  refine pv_iconst (pc := 288) (v := 1) dX12_item_288 (by decide) ?_
  refine pv_ialoadj (pc := 289) dX12_item_289 (sx_75 hT) (j := 1) (by decide) (by unfold vp_in; decide) ?_
  refine pv_aload_0 (pc := 290) dX12_item_290 ?_
  refine pv_getR (pc := 291) dX12_item_291 fg_X12_61_12 rfl (by decide) (sx_61 hT) (rx_61_22 hR) ?_
  refine pv_iconst (pc := 294) (v := 2) dX12_item_294 (by decide) ?_
  refine pv_ialoadj (pc := 295) dX12_item_295 (sx_75 hT) (j := 2) (by decide) (by unfold vp_in; decide) ?_
  refine pv_callVq (pc := 296) dX12_item_296 mgX12_adds lv_X12_131_12 (by decide) (sx_61 hT) (by omega) (c_X12_addsF hT hR hW hi.1 h8) rfl rfl (by decide) (fun v t I L Rf hq => ?_)
  obtain ⟨⟨x, rfl⟩, rfl, rfl, hM2, hI2, rfl, h24⟩ := hq
  refine pv_pop (pc := 299) dX12_item_299 rfl ?_
  refine pv_iload_2 (pc := 300) dX12_item_300 ?_
  refine pv_iconst (pc := 301) (v := 2) dX12_item_301 (by decide) ?_
  refine pv_icmp_ne (pc := 302) (tgt := 327) dX12_item_302 (by decide) (fun _ => ?_) (fun q => absurd q (by decide))
  refine pv_iconst (pc := 327) (v := 1) dX12_item_327 (by decide) ?_
  refine pv_iret (pc := 328) dX12_item_328 rfl rfl ?_
  exact q_good hB (hi.2.2.1.tr hI2) hi.2.2.2.1 (by rw [h750, h751, h752] at hM2; exact hM2) (h24.trans hi.2.2.2.2.1)

set_option maxRecDepth 100000 in
set_option maxHeartbeats 4000000 in
theorem l_fg2 {G : pv_G} {d : Nat} {c : Nat → Int32} {e : Nat} {s first : Int32} {B : BR} {J : pv_I} {K : pv_L} {t : pv_T} {I : pv_I} {L : pv_L} {Rf : pv_R} (hT : sh_ok t) (hR : rf_ok Rf) (hW : WF J K) (hd : 8 ≤ d) (he : e ≤ 160) {k a : Int32} {r : Nat} {I1 : pv_I} {L1 : pv_L} {l5 : Value} (hi : b_in c e s J K I L I1 L1 r) (h750 : I1 75 0 = k) (h751 : I1 75 1 = a) (h8 : (J 0 0).toInt < 8) (hB : B = b_fg2 c e r 0 k a J K) :
    pv_V G mX12_item d 0 0 (q_item B t I L Rf) 0 0 96 [.ref 61, .int first, .int 0, .int 3, .int 2, l5] [] t I1 L1 Rf := by
  refine pv_iload_4 (pc := 96) dX12_item_96 ?_
  refine pv_iload_3 (pc := 98) dX12_item_98 ?_
  refine pv_icmp_ge (pc := 99) (tgt := 273) dX12_item_99 (by decide) (fun q => absurd q (by decide)) (fun _ => ?_)
  refine pv_iload_4 (pc := 102) dX12_item_102 ?_
  refine pv_if_le (pc := 104) (tgt := 157) dX12_item_104 (by decide) (fun q => absurd q (by decide)) (fun _ => ?_)
  refine pv_aload_0 (pc := 107) dX12_item_107 ?_
  refine pv_getI (pc := 108) dX12_item_108 fg_X12_169_12 rfl (by decide) (sx_61 hT) ?_
  refine pv_aload_0 (pc := 111) dX12_item_111 ?_
  refine pv_getI (pc := 112) dX12_item_112 fg_X12_172_12 rfl (by decide) (sx_61 hT) ?_
  refine pv_icmp_ge (pc := 115) (tgt := 138) dX12_item_115 (by decide) (fun h115 => ?_) (fun h115 => ?_)
  · refine pv_aload_0 (pc := 138) dX12_item_138 ?_
    refine pv_aload_0 (pc := 139) dX12_item_139 ?_
    refine pv_getI (pc := 140) dX12_item_140 fg_X12_169_12 rfl (by decide) (sx_61 hT) ?_
    refine pv_callV1 (pc := 143) dX12_item_143 mgX12_wrong lv_X12_185_12 (by decide) (sx_61 hT) (by omega) (c_X12_wrong hT) rfl rfl (by decide) ?_
    refine pv_iret (pc := 146) dX12_item_146 rfl rfl ?_
    first
      | (have f1 : ¬ r < e := (by have g := h115; rw [hi.2.1.2.2.2.1, hi.2.2.2.2.1, i_ltn (by have := hi.2.2.2.2.2; omega) (by omega)] at g; exact g)
         exact q_bad (by rw [hB, b_fg2, if_neg (fun q => f1 q.1)]) (hi.2.2.1.u 61 27 _ (by omega)) hi.2.2.2.1 hi.2.2.2.2.1)
      | (have f1 : ¬ c r = 32 := fun q => h135 (by first | exact q | exact not_not_intro q)
         exact q_bad (by rw [hB, b_fg2, if_neg (fun q => f1 q.2)]) (hi.2.2.1.u 61 27 _ (by omega)) hi.2.2.2.1 hi.2.2.2.2.1)
  · refine pv_aload_0 (pc := 118) dX12_item_118 ?_
    refine pv_getR (pc := 119) dX12_item_119 fg_X12_48_12 rfl (by decide) (sx_61 hT) (rx_61_16 hR) ?_
    refine pv_aload_0 (pc := 122) dX12_item_122 ?_
    refine pv_getI (pc := 123) dX12_item_123 fg_X12_175_12 rfl (by decide) (sx_61 hT) ?_
    refine pv_aload_0 (pc := 126) dX12_item_126 ?_
    refine pv_getI (pc := 127) dX12_item_127 fg_X12_169_12 rfl (by decide) (sx_61 hT) ?_
    have hre : r < e := (by have g := h115; rw [hi.2.1.2.2.2.1, hi.2.2.2.2.1, i_ltn (by have := hi.2.2.2.2.2; omega) (by omega)] at g; first | exact g | exact Classical.not_not.mp g)
    have hc := b_cell hi.2.1 (r := r) (by omega)
    rw [hi.2.1.2.2.1, hi.2.2.2.2.1]
    refine pv_iadd (pc := 130) dX12_item_130 ?_
    refine pv_laloadj (pc := 131) dX12_item_131 (by decide) (sx_71 hT) rfl hc.1 ?_
    refine pv_l2i (pc := 132) dX12_item_132 ?_
    refine pv_topv2 (y := c r) hc.2 ?_
    refine pv_bipush (pc := 133) (v := 32) dX12_item_133 (by decide) ?_
    refine pv_icmp_eq (pc := 135) (tgt := 147) dX12_item_135 (by decide) (fun h135 => ?_) (fun h135 => ?_)
    · refine pv_aload_0 (pc := 147) dX12_item_147 ?_
      refine pv_dup (pc := 148) dX12_item_148 rfl ?_
      refine pv_getI (pc := 149) dX12_item_149 fg_X12_169_12 rfl (by decide) (sx_61 hT) ?_
      refine pv_iconst (pc := 152) (v := 1) dX12_item_152 (by decide) ?_
      refine pv_iadd (pc := 153) dX12_item_153 ?_
      refine pv_putI (pc := 154) dX12_item_154 fl_X12_169_12 (fun q => by cases q) ⟨rfl, rfl, rfl⟩ (by decide) (sx_61 hT) ?_
      have hre1 : r < e := hre
      have hsp : r < e ∧ c r = 32 := ⟨hre, (by first | exact h135 | exact Classical.not_not.mp h135)⟩
      have hi1 := hi.p (I1 61 24 + 1) (r + 1) (by rw [hi.2.2.2.2.1, i_inc]) (by omega)
      refine pv_aload_0 (pc := 157) dX12_item_157 ?_
      refine pv_getI (pc := 158) dX12_item_158 fg_X12_169_12 rfl (by decide) (sx_61 hT) ?_
      refine pv_istore_5 (pc := 161) dX12_item_161 (by decide) rfl ?_
      refine pv_aload_0 (pc := 163) dX12_item_163 ?_
      refine pv_iload_2 (pc := 164) dX12_item_164 ?_
      refine pv_if_ne (pc := 165) (tgt := 178) dX12_item_165 (by decide) (fun q => absurd q (by decide)) (fun _ => ?_)
      refine pv_iload_4 (pc := 168) dX12_item_168 ?_
      refine pv_iconst (pc := 170) (v := 2) dX12_item_170 (by decide) ?_
      refine pv_icmp_ne (pc := 171) (tgt := 178) dX12_item_171 (by decide) (fun q => absurd q (by decide)) (fun _ => ?_)
      refine pv_iconst (pc := 174) (v := 1) dX12_item_174 (by decide) ?_
      refine pv_goto (pc := 175) (tgt := 179) dX12_item_175 (by decide) ?_
      refine pv_aload_0 (pc := 179) dX12_item_179 ?_
      refine pv_iload_2 (pc := 180) dX12_item_180 ?_
      refine pv_iload_4 (pc := 181) dX12_item_181 ?_
      refine pv_callV1 (pc := 183) dX12_item_183 mgX12_top lv_X12_198_12 (by decide) (sx_61 hT) (by omega) (c_X12_top02 hT) rfl rfl (Nat.le_of_ble_eq_true rfl) ?_
      refine pv_callVq (pc := 186) dX12_item_186 mgX12_number lv_X12_202_12 (by decide) (sx_61 hT) (by omega) (c_X12_number hT hR hi1.2.1 hi1.2.2.2.2.1 hi1.2.2.2.2.2 (by omega)) rfl rfl (by decide) (fun v t I L Rf hq => ?_)
      obtain ⟨rfl, rfl, rfl, hn, ho⟩ := hq
      rcases ho with ⟨pp, hb, rfl, hp1, hp2⟩ | ⟨hb, rfl, hp1⟩
      · have hle := b_num_le hb
        have hi2 := hi1.n hn hp1 (by omega)
        refine pv_if_ne (pc := 189) (tgt := 194) dX12_item_189 (by decide) (fun _ => ?_) (fun q => absurd q (by decide))
        refine pv_aload_0 (pc := 194) dX12_item_194 ?_
        refine pv_getR (pc := 195) dX12_item_195 fg_X12_61_12 rfl (by decide) (sx_61 hT) (rx_61_22 hR) ?_
        refine pv_iload_4 (pc := 198) dX12_item_198 ?_
        refine pv_aload_0 (pc := 200) dX12_item_200 ?_
        refine pv_getI (pc := 201) dX12_item_201 fg_X12_178_12 rfl (by decide) (sx_61 hT) ?_
        refine pv_iastorej (pc := 204) dX12_item_204 (by decide) (sx_75 hT) (j := 2) (by decide) (by unfold vp_in; decide) ?_
        refine pv_iload_2 (pc := 205) dX12_item_205 ?_
        refine pv_iconst (pc := 206) (v := 2) dX12_item_206 (by decide) ?_
        refine pv_icmp_ne (pc := 207) (tgt := 244) dX12_item_207 (by decide) (fun _ => ?_) (fun q => absurd q (by decide))
        refine pv_iload_2 (pc := 244) dX12_item_244 ?_
        refine pv_iconst (pc := 245) (v := 1) dX12_item_245 (by decide) ?_
        refine pv_icmp_ne (pc := 246) (tgt := 267) dX12_item_246 (by decide) (fun _ => ?_) (fun q => absurd q (by decide))
        refine pv_iinc_4 (pc := 267) (v := 3) dX12_item_267 (by decide) (by decide) rfl ?_
        refine pv_goto (pc := 270) (tgt := 96) dX12_item_270 (by decide) ?_
        refine l_fg3 (k := k) (a := a) (z := pp.2) hT hR hW hd he (hi2.t 2 (I 61 26)) ?_ ?_ ?_ h8 ?_
        · show I 75 0 = k
          rw [hn 75 0 (by omega)]; exact h750
        · show I 75 1 = a
          rw [hn 75 1 (by omega)]; exact h751
        · show I 61 26 = pp.2
          exact hp2
        · rw [hB, b_fg2, if_pos hsp, hb]
      · skip
        refine pv_if_ne (pc := 189) (tgt := 194) dX12_item_189 (by decide) (fun q => absurd q (by decide)) (fun _ => ?_)
        refine pv_iconst (pc := 192) (v := 0) dX12_item_192 (by decide) ?_
        refine pv_iret (pc := 193) dX12_item_193 rfl rfl ?_
        exact q_bad (by rw [hB, b_fg2, if_pos hsp, hb]) (hi1.2.2.1.tr hn.bI) hi1.2.2.2.1 hp1
    · refine pv_aload_0 (pc := 138) dX12_item_138 ?_
      refine pv_aload_0 (pc := 139) dX12_item_139 ?_
      refine pv_getI (pc := 140) dX12_item_140 fg_X12_169_12 rfl (by decide) (sx_61 hT) ?_
      refine pv_callV1 (pc := 143) dX12_item_143 mgX12_wrong lv_X12_185_12 (by decide) (sx_61 hT) (by omega) (c_X12_wrong hT) rfl rfl (by decide) ?_
      refine pv_iret (pc := 146) dX12_item_146 rfl rfl ?_
      first
        | (have f1 : ¬ r < e := (by have g := h115; rw [hi.2.1.2.2.2.1, hi.2.2.2.2.1, i_ltn (by have := hi.2.2.2.2.2; omega) (by omega)] at g; exact g)
           exact q_bad (by rw [hB, b_fg2, if_neg (fun q => f1 q.1)]) (hi.2.2.1.u 61 27 _ (by omega)) hi.2.2.2.1 hi.2.2.2.2.1)
        | (have f1 : ¬ c r = 32 := fun q => h135 (by first | exact q | exact not_not_intro q)
           exact q_bad (by rw [hB, b_fg2, if_neg (fun q => f1 q.2)]) (hi.2.2.1.u 61 27 _ (by omega)) hi.2.2.2.1 hi.2.2.2.2.1)

set_option maxRecDepth 100000 in
set_option maxHeartbeats 4000000 in
theorem l_fg1 {G : pv_G} {d : Nat} {c : Nat → Int32} {e : Nat} {s first : Int32} {B : BR} {J : pv_I} {K : pv_L} {t : pv_T} {I : pv_I} {L : pv_L} {Rf : pv_R} (hT : sh_ok t) (hR : rf_ok Rf) (hW : WF J K) (hd : 8 ≤ d) (he : e ≤ 160) {k : Int32} {r : Nat} {I1 : pv_I} {L1 : pv_L} {l5 : Value} (hi : b_in c e s J K I L I1 L1 r) (h750 : I1 75 0 = k) (h8 : (J 0 0).toInt < 8) (hB : B = b_fg1 c e r k J K) :
    pv_V G mX12_item d 0 0 (q_item B t I L Rf) 0 0 96 [.ref 61, .int first, .int 0, .int 3, .int 1, l5] [] t I1 L1 Rf := by
  refine pv_iload_4 (pc := 96) dX12_item_96 ?_
  refine pv_iload_3 (pc := 98) dX12_item_98 ?_
  refine pv_icmp_ge (pc := 99) (tgt := 273) dX12_item_99 (by decide) (fun q => absurd q (by decide)) (fun _ => ?_)
  refine pv_iload_4 (pc := 102) dX12_item_102 ?_
  refine pv_if_le (pc := 104) (tgt := 157) dX12_item_104 (by decide) (fun q => absurd q (by decide)) (fun _ => ?_)
  refine pv_aload_0 (pc := 107) dX12_item_107 ?_
  refine pv_getI (pc := 108) dX12_item_108 fg_X12_169_12 rfl (by decide) (sx_61 hT) ?_
  refine pv_aload_0 (pc := 111) dX12_item_111 ?_
  refine pv_getI (pc := 112) dX12_item_112 fg_X12_172_12 rfl (by decide) (sx_61 hT) ?_
  refine pv_icmp_ge (pc := 115) (tgt := 138) dX12_item_115 (by decide) (fun h115 => ?_) (fun h115 => ?_)
  · refine pv_aload_0 (pc := 138) dX12_item_138 ?_
    refine pv_aload_0 (pc := 139) dX12_item_139 ?_
    refine pv_getI (pc := 140) dX12_item_140 fg_X12_169_12 rfl (by decide) (sx_61 hT) ?_
    refine pv_callV1 (pc := 143) dX12_item_143 mgX12_wrong lv_X12_185_12 (by decide) (sx_61 hT) (by omega) (c_X12_wrong hT) rfl rfl (by decide) ?_
    refine pv_iret (pc := 146) dX12_item_146 rfl rfl ?_
    first
      | (have f1 : ¬ r < e := (by have g := h115; rw [hi.2.1.2.2.2.1, hi.2.2.2.2.1, i_ltn (by have := hi.2.2.2.2.2; omega) (by omega)] at g; exact g)
         exact q_bad (by rw [hB, b_fg1, if_neg (fun q => f1 q.1)]) (hi.2.2.1.u 61 27 _ (by omega)) hi.2.2.2.1 hi.2.2.2.2.1)
      | (have f1 : ¬ c r = 32 := fun q => h135 (by first | exact q | exact not_not_intro q)
         exact q_bad (by rw [hB, b_fg1, if_neg (fun q => f1 q.2)]) (hi.2.2.1.u 61 27 _ (by omega)) hi.2.2.2.1 hi.2.2.2.2.1)
  · refine pv_aload_0 (pc := 118) dX12_item_118 ?_
    refine pv_getR (pc := 119) dX12_item_119 fg_X12_48_12 rfl (by decide) (sx_61 hT) (rx_61_16 hR) ?_
    refine pv_aload_0 (pc := 122) dX12_item_122 ?_
    refine pv_getI (pc := 123) dX12_item_123 fg_X12_175_12 rfl (by decide) (sx_61 hT) ?_
    refine pv_aload_0 (pc := 126) dX12_item_126 ?_
    refine pv_getI (pc := 127) dX12_item_127 fg_X12_169_12 rfl (by decide) (sx_61 hT) ?_
    have hre : r < e := (by have g := h115; rw [hi.2.1.2.2.2.1, hi.2.2.2.2.1, i_ltn (by have := hi.2.2.2.2.2; omega) (by omega)] at g; first | exact g | exact Classical.not_not.mp g)
    have hc := b_cell hi.2.1 (r := r) (by omega)
    rw [hi.2.1.2.2.1, hi.2.2.2.2.1]
    refine pv_iadd (pc := 130) dX12_item_130 ?_
    refine pv_laloadj (pc := 131) dX12_item_131 (by decide) (sx_71 hT) rfl hc.1 ?_
    refine pv_l2i (pc := 132) dX12_item_132 ?_
    refine pv_topv2 (y := c r) hc.2 ?_
    refine pv_bipush (pc := 133) (v := 32) dX12_item_133 (by decide) ?_
    refine pv_icmp_eq (pc := 135) (tgt := 147) dX12_item_135 (by decide) (fun h135 => ?_) (fun h135 => ?_)
    · refine pv_aload_0 (pc := 147) dX12_item_147 ?_
      refine pv_dup (pc := 148) dX12_item_148 rfl ?_
      refine pv_getI (pc := 149) dX12_item_149 fg_X12_169_12 rfl (by decide) (sx_61 hT) ?_
      refine pv_iconst (pc := 152) (v := 1) dX12_item_152 (by decide) ?_
      refine pv_iadd (pc := 153) dX12_item_153 ?_
      refine pv_putI (pc := 154) dX12_item_154 fl_X12_169_12 (fun q => by cases q) ⟨rfl, rfl, rfl⟩ (by decide) (sx_61 hT) ?_
      have hre1 : r < e := hre
      have hsp : r < e ∧ c r = 32 := ⟨hre, (by first | exact h135 | exact Classical.not_not.mp h135)⟩
      have hi1 := hi.p (I1 61 24 + 1) (r + 1) (by rw [hi.2.2.2.2.1, i_inc]) (by omega)
      refine pv_aload_0 (pc := 157) dX12_item_157 ?_
      refine pv_getI (pc := 158) dX12_item_158 fg_X12_169_12 rfl (by decide) (sx_61 hT) ?_
      refine pv_istore_5 (pc := 161) dX12_item_161 (by decide) rfl ?_
      refine pv_aload_0 (pc := 163) dX12_item_163 ?_
      refine pv_iload_2 (pc := 164) dX12_item_164 ?_
      refine pv_if_ne (pc := 165) (tgt := 178) dX12_item_165 (by decide) (fun q => absurd q (by decide)) (fun _ => ?_)
      refine pv_iload_4 (pc := 168) dX12_item_168 ?_
      refine pv_iconst (pc := 170) (v := 2) dX12_item_170 (by decide) ?_
      refine pv_icmp_ne (pc := 171) (tgt := 178) dX12_item_171 (by decide) (fun _ => ?_) (fun q => absurd q (by decide))
      refine pv_iconst (pc := 178) (v := 0) dX12_item_178 (by decide) ?_
      refine pv_aload_0 (pc := 179) dX12_item_179 ?_
      refine pv_iload_2 (pc := 180) dX12_item_180 ?_
      refine pv_iload_4 (pc := 181) dX12_item_181 ?_
      refine pv_callV1 (pc := 183) dX12_item_183 mgX12_top lv_X12_198_12 (by decide) (sx_61 hT) (by omega) (c_X12_top01 hT) rfl rfl (Nat.le_of_ble_eq_true rfl) ?_
      refine pv_callVq (pc := 186) dX12_item_186 mgX12_number lv_X12_202_12 (by decide) (sx_61 hT) (by omega) (c_X12_number hT hR hi1.2.1 hi1.2.2.2.2.1 hi1.2.2.2.2.2 (by omega)) rfl rfl (by decide) (fun v t I L Rf hq => ?_)
      obtain ⟨rfl, rfl, rfl, hn, ho⟩ := hq
      rcases ho with ⟨pp, hb, rfl, hp1, hp2⟩ | ⟨hb, rfl, hp1⟩
      · have hle := b_num_le hb
        have hi2 := hi1.n hn hp1 (by omega)
        refine pv_if_ne (pc := 189) (tgt := 194) dX12_item_189 (by decide) (fun _ => ?_) (fun q => absurd q (by decide))
        refine pv_aload_0 (pc := 194) dX12_item_194 ?_
        refine pv_getR (pc := 195) dX12_item_195 fg_X12_61_12 rfl (by decide) (sx_61 hT) (rx_61_22 hR) ?_
        refine pv_iload_4 (pc := 198) dX12_item_198 ?_
        refine pv_aload_0 (pc := 200) dX12_item_200 ?_
        refine pv_getI (pc := 201) dX12_item_201 fg_X12_178_12 rfl (by decide) (sx_61 hT) ?_
        refine pv_iastorej (pc := 204) dX12_item_204 (by decide) (sx_75 hT) (j := 1) (by decide) (by unfold vp_in; decide) ?_
        refine pv_iload_2 (pc := 205) dX12_item_205 ?_
        refine pv_iconst (pc := 206) (v := 2) dX12_item_206 (by decide) ?_
        refine pv_icmp_ne (pc := 207) (tgt := 244) dX12_item_207 (by decide) (fun _ => ?_) (fun q => absurd q (by decide))
        refine pv_iload_2 (pc := 244) dX12_item_244 ?_
        refine pv_iconst (pc := 245) (v := 1) dX12_item_245 (by decide) ?_
        refine pv_icmp_ne (pc := 246) (tgt := 267) dX12_item_246 (by decide) (fun _ => ?_) (fun q => absurd q (by decide))
        refine pv_iinc_4 (pc := 267) (v := 2) dX12_item_267 (by decide) (by decide) rfl ?_
        refine pv_goto (pc := 270) (tgt := 96) dX12_item_270 (by decide) ?_
        refine l_fg2 (k := k) (a := pp.2) hT hR hW hd he (hi2.t 1 (I 61 26)) ?_ ?_ h8 ?_
        · show I 75 0 = k
          rw [hn 75 0 (by omega)]; exact h750
        · show I 61 26 = pp.2
          exact hp2
        · rw [hB, b_fg1, if_pos hsp, hb]
      · skip
        refine pv_if_ne (pc := 189) (tgt := 194) dX12_item_189 (by decide) (fun q => absurd q (by decide)) (fun _ => ?_)
        refine pv_iconst (pc := 192) (v := 0) dX12_item_192 (by decide) ?_
        refine pv_iret (pc := 193) dX12_item_193 rfl rfl ?_
        exact q_bad (by rw [hB, b_fg1, if_pos hsp, hb]) (hi1.2.2.1.tr hn.bI) hi1.2.2.2.1 hp1
    · refine pv_aload_0 (pc := 138) dX12_item_138 ?_
      refine pv_aload_0 (pc := 139) dX12_item_139 ?_
      refine pv_getI (pc := 140) dX12_item_140 fg_X12_169_12 rfl (by decide) (sx_61 hT) ?_
      refine pv_callV1 (pc := 143) dX12_item_143 mgX12_wrong lv_X12_185_12 (by decide) (sx_61 hT) (by omega) (c_X12_wrong hT) rfl rfl (by decide) ?_
      refine pv_iret (pc := 146) dX12_item_146 rfl rfl ?_
      first
        | (have f1 : ¬ r < e := (by have g := h115; rw [hi.2.1.2.2.2.1, hi.2.2.2.2.1, i_ltn (by have := hi.2.2.2.2.2; omega) (by omega)] at g; exact g)
           exact q_bad (by rw [hB, b_fg1, if_neg (fun q => f1 q.1)]) (hi.2.2.1.u 61 27 _ (by omega)) hi.2.2.2.1 hi.2.2.2.2.1)
        | (have f1 : ¬ c r = 32 := fun q => h135 (by first | exact q | exact not_not_intro q)
           exact q_bad (by rw [hB, b_fg1, if_neg (fun q => f1 q.2)]) (hi.2.2.1.u 61 27 _ (by omega)) hi.2.2.2.1 hi.2.2.2.2.1)

set_option maxRecDepth 100000 in
set_option maxHeartbeats 4000000 in
theorem l_fg0 {G : pv_G} {d : Nat} {c : Nat → Int32} {e : Nat} {s first : Int32} {B : BR} {J : pv_I} {K : pv_L} {t : pv_T} {I : pv_I} {L : pv_L} {Rf : pv_R} (hT : sh_ok t) (hR : rf_ok Rf) (hW : WF J K) (hd : 8 ≤ d) (he : e ≤ 160)  {r : Nat} {I1 : pv_I} {L1 : pv_L} {l5 : Value} (hi : b_in c e s J K I L I1 L1 r) (h8 : (J 0 0).toInt < 8) (hB : B = b_fg0 c e r J K) :
    pv_V G mX12_item d 0 0 (q_item B t I L Rf) 0 0 96 [.ref 61, .int first, .int 0, .int 3, .int 0, l5] [] t I1 L1 Rf := by
  refine pv_iload_4 (pc := 96) dX12_item_96 ?_
  refine pv_iload_3 (pc := 98) dX12_item_98 ?_
  refine pv_icmp_ge (pc := 99) (tgt := 273) dX12_item_99 (by decide) (fun q => absurd q (by decide)) (fun _ => ?_)
  refine pv_iload_4 (pc := 102) dX12_item_102 ?_
  refine pv_if_le (pc := 104) (tgt := 157) dX12_item_104 (by decide) (fun _ => ?_) (fun q => absurd q (by decide))
  have hi1 := hi
  refine pv_aload_0 (pc := 157) dX12_item_157 ?_
  refine pv_getI (pc := 158) dX12_item_158 fg_X12_169_12 rfl (by decide) (sx_61 hT) ?_
  refine pv_istore_5 (pc := 161) dX12_item_161 (by decide) rfl ?_
  refine pv_aload_0 (pc := 163) dX12_item_163 ?_
  refine pv_iload_2 (pc := 164) dX12_item_164 ?_
  refine pv_if_ne (pc := 165) (tgt := 178) dX12_item_165 (by decide) (fun q => absurd q (by decide)) (fun _ => ?_)
  refine pv_iload_4 (pc := 168) dX12_item_168 ?_
  refine pv_iconst (pc := 170) (v := 2) dX12_item_170 (by decide) ?_
  refine pv_icmp_ne (pc := 171) (tgt := 178) dX12_item_171 (by decide) (fun _ => ?_) (fun q => absurd q (by decide))
  refine pv_iconst (pc := 178) (v := 0) dX12_item_178 (by decide) ?_
  refine pv_aload_0 (pc := 179) dX12_item_179 ?_
  refine pv_iload_2 (pc := 180) dX12_item_180 ?_
  refine pv_iload_4 (pc := 181) dX12_item_181 ?_
  refine pv_callV1 (pc := 183) dX12_item_183 mgX12_top lv_X12_198_12 (by decide) (sx_61 hT) (by omega) (c_X12_top00 hT) rfl rfl (Nat.le_of_ble_eq_true rfl) ?_
  refine pv_callVq (pc := 186) dX12_item_186 mgX12_number lv_X12_202_12 (by decide) (sx_61 hT) (by omega) (c_X12_number hT hR hi1.2.1 hi1.2.2.2.2.1 hi1.2.2.2.2.2 (by omega)) rfl rfl (by decide) (fun v t I L Rf hq => ?_)
  obtain ⟨rfl, rfl, rfl, hn, ho⟩ := hq
  rcases ho with ⟨pp, hb, rfl, hp1, hp2⟩ | ⟨hb, rfl, hp1⟩
  · have hle := b_num_le hb
    have hi2 := hi1.n hn hp1 (by omega)
    refine pv_if_ne (pc := 189) (tgt := 194) dX12_item_189 (by decide) (fun _ => ?_) (fun q => absurd q (by decide))
    refine pv_aload_0 (pc := 194) dX12_item_194 ?_
    refine pv_getR (pc := 195) dX12_item_195 fg_X12_61_12 rfl (by decide) (sx_61 hT) (rx_61_22 hR) ?_
    refine pv_iload_4 (pc := 198) dX12_item_198 ?_
    refine pv_aload_0 (pc := 200) dX12_item_200 ?_
    refine pv_getI (pc := 201) dX12_item_201 fg_X12_178_12 rfl (by decide) (sx_61 hT) ?_
    refine pv_iastorej (pc := 204) dX12_item_204 (by decide) (sx_75 hT) (j := 0) (by decide) (by unfold vp_in; decide) ?_
    refine pv_iload_2 (pc := 205) dX12_item_205 ?_
    refine pv_iconst (pc := 206) (v := 2) dX12_item_206 (by decide) ?_
    refine pv_icmp_ne (pc := 207) (tgt := 244) dX12_item_207 (by decide) (fun _ => ?_) (fun q => absurd q (by decide))
    refine pv_iload_2 (pc := 244) dX12_item_244 ?_
    refine pv_iconst (pc := 245) (v := 1) dX12_item_245 (by decide) ?_
    refine pv_icmp_ne (pc := 246) (tgt := 267) dX12_item_246 (by decide) (fun _ => ?_) (fun q => absurd q (by decide))
    refine pv_iinc_4 (pc := 267) (v := 1) dX12_item_267 (by decide) (by decide) rfl ?_
    refine pv_goto (pc := 270) (tgt := 96) dX12_item_270 (by decide) ?_
    refine l_fg1 (k := pp.2) hT hR hW hd he (hi2.t 0 (I 61 26)) ?_ h8 ?_
    · show I 61 26 = pp.2
      exact hp2
    · rw [hB, b_fg0, hb]
  · skip
    refine pv_if_ne (pc := 189) (tgt := 194) dX12_item_189 (by decide) (fun q => absurd q (by decide)) (fun _ => ?_)
    refine pv_iconst (pc := 192) (v := 0) dX12_item_192 (by decide) ?_
    refine pv_iret (pc := 193) dX12_item_193 rfl rfl ?_
    exact q_bad (by rw [hB, b_fg0, hb]) (hi1.2.2.1.tr hn.bI) hi1.2.2.2.1 hp1

set_option maxRecDepth 100000 in
set_option maxHeartbeats 4000000 in
theorem l_st2 {G : pv_G} {d : Nat} {c : Nat → Int32} {e : Nat} {s first : Int32} {B : BR} {J : pv_I} {K : pv_L} {t : pv_T} {I : pv_I} {L : pv_L} {Rf : pv_R} (hT : sh_ok t) (hR : rf_ok Rf) (hW : WF J K) (hd : 8 ≤ d) (he : e ≤ 160) {k a : Int32} {r : Nat} {I1 : pv_I} {L1 : pv_L} {l5 : Value} (hi : b_in c e s J K I L I1 L1 r) (h750 : I1 75 0 = k) (h751 : I1 75 1 = a) (hB : B = .ok (r, J, w_pq K k.toInt64 a.toInt64)) :
    pv_V G mX12_item d 0 0 (q_item B t I L Rf) 0 0 96 [.ref 61, .int first, .int 2, .int 2, .int 2, l5] [] t I1 L1 Rf := by
  refine pv_iload_4 (pc := 96) dX12_item_96 ?_
  refine pv_iload_3 (pc := 98) dX12_item_98 ?_
  refine pv_icmp_ge (pc := 99) (tgt := 273) dX12_item_99 (by decide) (fun _ => ?_) (fun q => absurd q (by decide))
  refine pv_iload_2 (pc := 273) dX12_item_273 ?_
  refine pv_if_ne (pc := 274) (tgt := 300) dX12_item_274 (by decide) (fun _ => ?_) (fun q => absurd q (by decide))
  refine pv_iload_2 (pc := 300) dX12_item_300 ?_
  refine pv_iconst (pc := 301) (v := 2) dX12_item_301 (by decide) ?_
  refine pv_icmp_ne (pc := 302) (tgt := 327) dX12_item_302 (by decide) (fun q => absurd q (by decide)) (fun _ => ?_)
  refine pv_aload_0 (pc := 305) dX12_item_305 ?_
  refine pv_aload_0 (pc := 306) dX12_item_306 ?_
  refine pv_getR (pc := 307) dX12_item_307 fg_X12_61_12 rfl (by decide) (sx_61 hT) (rx_61_22 hR) ?_
  refine pv_iconst (pc := 310) (v := 0) dX12_item_310 (by decide) ?_
  refine pv_ialoadj (pc := 311) dX12_item_311 (sx_75 hT) (j := 0) (by decide) (by unfold vp_in; decide) ?_
  refine pv_i2l (pc := 312) dX12_item_312 ?_
  refine pv_putL (pc := 313) dX12_item_313 fl_X12_147_12 (fun q => by cases q) (by decide) (sx_61 hT) ?_
  refine pv_aload_0 (pc := 316) dX12_item_316 ?_
  refine pv_aload_0 (pc := 317) dX12_item_317 ?_
  refine pv_getR (pc := 318) dX12_item_318 fg_X12_61_12 rfl (by decide) (sx_61 hT) (rx_61_22 hR) ?_
  refine pv_iconst (pc := 321) (v := 1) dX12_item_321 (by decide) ?_
  refine pv_ialoadj (pc := 322) dX12_item_322 (sx_75 hT) (j := 1) (by decide) (by unfold vp_in; decide) ?_
  refine pv_i2l (pc := 323) dX12_item_323 ?_
  refine pv_putL (pc := 324) dX12_item_324 fl_X12_16_12 (fun q => by cases q) (by decide) (sx_61 hT) ?_
  refine pv_iconst (pc := 327) (v := 1) dX12_item_327 (by decide) ?_
  refine pv_iret (pc := 328) dX12_item_328 rfl rfl ?_
  exact q_good hB hi.2.2.1 ((hi.2.2.2.1.u 5 _ (by omega)).u 6 _ (by omega)) (by have g := hi.1.PQ (I1 75 0).toInt64 (I1 75 1).toInt64; rw [h750, h751] at g ⊢; exact g) hi.2.2.2.2.1

set_option maxRecDepth 100000 in
set_option maxHeartbeats 4000000 in
theorem l_st1 {G : pv_G} {d : Nat} {c : Nat → Int32} {e : Nat} {s first : Int32} {B : BR} {J : pv_I} {K : pv_L} {t : pv_T} {I : pv_I} {L : pv_L} {Rf : pv_R} (hT : sh_ok t) (hR : rf_ok Rf) (hW : WF J K) (hd : 8 ≤ d) (he : e ≤ 160) {k : Int32} {r : Nat} {I1 : pv_I} {L1 : pv_L} {l5 : Value} (hi : b_in c e s J K I L I1 L1 r) (h750 : I1 75 0 = k) (hB : B = b_st1 c e r k J K) :
    pv_V G mX12_item d 0 0 (q_item B t I L Rf) 0 0 96 [.ref 61, .int first, .int 2, .int 2, .int 1, l5] [] t I1 L1 Rf := by
  refine pv_iload_4 (pc := 96) dX12_item_96 ?_
  refine pv_iload_3 (pc := 98) dX12_item_98 ?_
  refine pv_icmp_ge (pc := 99) (tgt := 273) dX12_item_99 (by decide) (fun q => absurd q (by decide)) (fun _ => ?_)
  refine pv_iload_4 (pc := 102) dX12_item_102 ?_
  refine pv_if_le (pc := 104) (tgt := 157) dX12_item_104 (by decide) (fun q => absurd q (by decide)) (fun _ => ?_)
  refine pv_aload_0 (pc := 107) dX12_item_107 ?_
  refine pv_getI (pc := 108) dX12_item_108 fg_X12_169_12 rfl (by decide) (sx_61 hT) ?_
  refine pv_aload_0 (pc := 111) dX12_item_111 ?_
  refine pv_getI (pc := 112) dX12_item_112 fg_X12_172_12 rfl (by decide) (sx_61 hT) ?_
  refine pv_icmp_ge (pc := 115) (tgt := 138) dX12_item_115 (by decide) (fun h115 => ?_) (fun h115 => ?_)
  · refine pv_aload_0 (pc := 138) dX12_item_138 ?_
    refine pv_aload_0 (pc := 139) dX12_item_139 ?_
    refine pv_getI (pc := 140) dX12_item_140 fg_X12_169_12 rfl (by decide) (sx_61 hT) ?_
    refine pv_callV1 (pc := 143) dX12_item_143 mgX12_wrong lv_X12_185_12 (by decide) (sx_61 hT) (by omega) (c_X12_wrong hT) rfl rfl (by decide) ?_
    refine pv_iret (pc := 146) dX12_item_146 rfl rfl ?_
    first
      | (have f1 : ¬ r < e := (by have g := h115; rw [hi.2.1.2.2.2.1, hi.2.2.2.2.1, i_ltn (by have := hi.2.2.2.2.2; omega) (by omega)] at g; exact g)
         exact q_bad (by rw [hB, b_st1, if_neg (fun q => f1 q.1)]) (hi.2.2.1.u 61 27 _ (by omega)) hi.2.2.2.1 hi.2.2.2.2.1)
      | (have f1 : ¬ c r = 32 := fun q => h135 (by first | exact q | exact not_not_intro q)
         exact q_bad (by rw [hB, b_st1, if_neg (fun q => f1 q.2)]) (hi.2.2.1.u 61 27 _ (by omega)) hi.2.2.2.1 hi.2.2.2.2.1)
  · refine pv_aload_0 (pc := 118) dX12_item_118 ?_
    refine pv_getR (pc := 119) dX12_item_119 fg_X12_48_12 rfl (by decide) (sx_61 hT) (rx_61_16 hR) ?_
    refine pv_aload_0 (pc := 122) dX12_item_122 ?_
    refine pv_getI (pc := 123) dX12_item_123 fg_X12_175_12 rfl (by decide) (sx_61 hT) ?_
    refine pv_aload_0 (pc := 126) dX12_item_126 ?_
    refine pv_getI (pc := 127) dX12_item_127 fg_X12_169_12 rfl (by decide) (sx_61 hT) ?_
    have hre : r < e := (by have g := h115; rw [hi.2.1.2.2.2.1, hi.2.2.2.2.1, i_ltn (by have := hi.2.2.2.2.2; omega) (by omega)] at g; first | exact g | exact Classical.not_not.mp g)
    have hc := b_cell hi.2.1 (r := r) (by omega)
    rw [hi.2.1.2.2.1, hi.2.2.2.2.1]
    refine pv_iadd (pc := 130) dX12_item_130 ?_
    refine pv_laloadj (pc := 131) dX12_item_131 (by decide) (sx_71 hT) rfl hc.1 ?_
    refine pv_l2i (pc := 132) dX12_item_132 ?_
    refine pv_topv2 (y := c r) hc.2 ?_
    refine pv_bipush (pc := 133) (v := 32) dX12_item_133 (by decide) ?_
    refine pv_icmp_eq (pc := 135) (tgt := 147) dX12_item_135 (by decide) (fun h135 => ?_) (fun h135 => ?_)
    · refine pv_aload_0 (pc := 147) dX12_item_147 ?_
      refine pv_dup (pc := 148) dX12_item_148 rfl ?_
      refine pv_getI (pc := 149) dX12_item_149 fg_X12_169_12 rfl (by decide) (sx_61 hT) ?_
      refine pv_iconst (pc := 152) (v := 1) dX12_item_152 (by decide) ?_
      refine pv_iadd (pc := 153) dX12_item_153 ?_
      refine pv_putI (pc := 154) dX12_item_154 fl_X12_169_12 (fun q => by cases q) ⟨rfl, rfl, rfl⟩ (by decide) (sx_61 hT) ?_
      have hre1 : r < e := hre
      have hsp : r < e ∧ c r = 32 := ⟨hre, (by first | exact h135 | exact Classical.not_not.mp h135)⟩
      have hi1 := hi.p (I1 61 24 + 1) (r + 1) (by rw [hi.2.2.2.2.1, i_inc]) (by omega)
      refine pv_aload_0 (pc := 157) dX12_item_157 ?_
      refine pv_getI (pc := 158) dX12_item_158 fg_X12_169_12 rfl (by decide) (sx_61 hT) ?_
      refine pv_istore_5 (pc := 161) dX12_item_161 (by decide) rfl ?_
      refine pv_aload_0 (pc := 163) dX12_item_163 ?_
      refine pv_iload_2 (pc := 164) dX12_item_164 ?_
      refine pv_if_ne (pc := 165) (tgt := 178) dX12_item_165 (by decide) (fun _ => ?_) (fun q => absurd q (by decide))
      refine pv_iconst (pc := 178) (v := 0) dX12_item_178 (by decide) ?_
      refine pv_aload_0 (pc := 179) dX12_item_179 ?_
      refine pv_iload_2 (pc := 180) dX12_item_180 ?_
      refine pv_iload_4 (pc := 181) dX12_item_181 ?_
      refine pv_callV1 (pc := 183) dX12_item_183 mgX12_top lv_X12_198_12 (by decide) (sx_61 hT) (by omega) (c_X12_top21 hT) rfl rfl (Nat.le_of_ble_eq_true rfl) ?_
      refine pv_callVq (pc := 186) dX12_item_186 mgX12_number lv_X12_202_12 (by decide) (sx_61 hT) (by omega) (c_X12_number hT hR hi1.2.1 hi1.2.2.2.2.1 hi1.2.2.2.2.2 (by omega)) rfl rfl (by decide) (fun v t I L Rf hq => ?_)
      obtain ⟨rfl, rfl, rfl, hn, ho⟩ := hq
      rcases ho with ⟨pp, hb, rfl, hp1, hp2⟩ | ⟨hb, rfl, hp1⟩
      · have hle := b_num_le hb
        have hi2 := hi1.n hn hp1 (by omega)
        refine pv_if_ne (pc := 189) (tgt := 194) dX12_item_189 (by decide) (fun _ => ?_) (fun q => absurd q (by decide))
        refine pv_aload_0 (pc := 194) dX12_item_194 ?_
        refine pv_getR (pc := 195) dX12_item_195 fg_X12_61_12 rfl (by decide) (sx_61 hT) (rx_61_22 hR) ?_
        refine pv_iload_4 (pc := 198) dX12_item_198 ?_
        refine pv_aload_0 (pc := 200) dX12_item_200 ?_
        refine pv_getI (pc := 201) dX12_item_201 fg_X12_178_12 rfl (by decide) (sx_61 hT) ?_
        refine pv_iastorej (pc := 204) dX12_item_204 (by decide) (sx_75 hT) (j := 1) (by decide) (by unfold vp_in; decide) ?_
        refine pv_iload_2 (pc := 205) dX12_item_205 ?_
        refine pv_iconst (pc := 206) (v := 2) dX12_item_206 (by decide) ?_
        refine pv_icmp_ne (pc := 207) (tgt := 244) dX12_item_207 (by decide) (fun q => absurd q (by decide)) (fun _ => ?_)
        refine pv_iload_4 (pc := 210) dX12_item_210 ?_
        refine pv_iconst (pc := 212) (v := 1) dX12_item_212 (by decide) ?_
        refine pv_icmp_ne (pc := 213) (tgt := 244) dX12_item_213 (by decide) (fun q => absurd q (by decide)) (fun _ => ?_)
        refine pv_aload_0 (pc := 216) dX12_item_216 ?_
        refine pv_aload_0 (pc := 217) dX12_item_217 ?_
        refine pv_getR (pc := 218) dX12_item_218 fg_X12_61_12 rfl (by decide) (sx_61 hT) (rx_61_22 hR) ?_
        refine pv_iconst (pc := 221) (v := 0) dX12_item_221 (by decide) ?_
        refine pv_ialoadj (pc := 222) dX12_item_222 (sx_75 hT) (j := 0) (by decide) (by unfold vp_in; decide) ?_
        refine pv_i2l (pc := 223) dX12_item_223 ?_
        refine pv_aload_0 (pc := 224) dX12_item_224 ?_
        refine pv_getR (pc := 225) dX12_item_225 fg_X12_61_12 rfl (by decide) (sx_61 hT) (rx_61_22 hR) ?_
        refine pv_iconst (pc := 228) (v := 1) dX12_item_228 (by decide) ?_
        refine pv_ialoadj (pc := 229) dX12_item_229 (sx_75 hT) (j := 1) (by decide) (by unfold vp_in; decide) ?_
        refine pv_i2l (pc := 230) dX12_item_230 ?_
        refine pv_callV1 (pc := 231) dX12_item_231 mgX12_isNumber lv_X12_143_12 (by decide) (sx_61 hT) (by omega) (c_X12_isNumber hT (by omega)) rfl rfl (by decide) ?_
        refine pv_if_ne (pc := 234) (tgt := 244) dX12_item_234 (by decide) (fun h234 => ?_) (fun h234 => ?_)
        · refine pv_iload_2 (pc := 244) dX12_item_244 ?_
          refine pv_iconst (pc := 245) (v := 1) dX12_item_245 (by decide) ?_
          refine pv_icmp_ne (pc := 246) (tgt := 267) dX12_item_246 (by decide) (fun _ => ?_) (fun q => absurd q (by decide))
          refine pv_iinc_4 (pc := 267) (v := 2) dX12_item_267 (by decide) (by decide) rfl ?_
          refine pv_goto (pc := 270) (tgt := 96) dX12_item_270 (by decide) ?_
          have g0 : I 75 0 = k := (hn 75 0 (by omega)).trans h750
          have f1 : s_num (I 75 0).toInt64 (I 61 26).toInt64 = true := (pv_b_n0 _).mp h234
          rw [g0, hp2] at f1
          refine l_st2 (k := k) (a := pp.2) hT hR hW hd he (hi2.t 1 (I 61 26)) ?_ ?_ ?_
          · exact g0
          · exact hp2
          · rw [hB, b_st1, if_pos hsp, hb]; show (if s_num k.toInt64 pp.2.toInt64 = true then _ else _) = _; rw [if_pos f1]
        · refine pv_aload_0 (pc := 237) dX12_item_237 ?_
          refine pv_iload_5 (pc := 238) dX12_item_238 ?_
          refine pv_callV1 (pc := 240) dX12_item_240 mgX12_wrong lv_X12_185_12 (by decide) (sx_61 hT) (by omega) (c_X12_wrong hT) rfl rfl (by decide) ?_
          refine pv_iret (pc := 243) dX12_item_243 rfl rfl ?_
          have g0 : I 75 0 = k := (hn 75 0 (by omega)).trans h750
          have f1 : s_num (I 75 0).toInt64 (I 61 26).toInt64 = false := (pv_b_0 _).mp h234
          rw [g0, hp2] at f1
          exact q_bad (by rw [hB, b_st1, if_pos hsp, hb]; show (if s_num k.toInt64 pp.2.toInt64 = true then _ else _) = _; rw [if_neg (by rw [f1]; decide)]) ((hi2.t 1 (I 61 26)).2.2.1.u 61 27 _ (by omega)) hi2.2.2.2.1 (show I1 61 24 + 1 = _ by rw [hi.2.2.2.2.1, i_inc])
      · skip
        refine pv_if_ne (pc := 189) (tgt := 194) dX12_item_189 (by decide) (fun q => absurd q (by decide)) (fun _ => ?_)
        refine pv_iconst (pc := 192) (v := 0) dX12_item_192 (by decide) ?_
        refine pv_iret (pc := 193) dX12_item_193 rfl rfl ?_
        exact q_bad (by rw [hB, b_st1, if_pos hsp, hb]) (hi1.2.2.1.tr hn.bI) hi1.2.2.2.1 hp1
    · refine pv_aload_0 (pc := 138) dX12_item_138 ?_
      refine pv_aload_0 (pc := 139) dX12_item_139 ?_
      refine pv_getI (pc := 140) dX12_item_140 fg_X12_169_12 rfl (by decide) (sx_61 hT) ?_
      refine pv_callV1 (pc := 143) dX12_item_143 mgX12_wrong lv_X12_185_12 (by decide) (sx_61 hT) (by omega) (c_X12_wrong hT) rfl rfl (by decide) ?_
      refine pv_iret (pc := 146) dX12_item_146 rfl rfl ?_
      first
        | (have f1 : ¬ r < e := (by have g := h115; rw [hi.2.1.2.2.2.1, hi.2.2.2.2.1, i_ltn (by have := hi.2.2.2.2.2; omega) (by omega)] at g; exact g)
           exact q_bad (by rw [hB, b_st1, if_neg (fun q => f1 q.1)]) (hi.2.2.1.u 61 27 _ (by omega)) hi.2.2.2.1 hi.2.2.2.2.1)
        | (have f1 : ¬ c r = 32 := fun q => h135 (by first | exact q | exact not_not_intro q)
           exact q_bad (by rw [hB, b_st1, if_neg (fun q => f1 q.2)]) (hi.2.2.1.u 61 27 _ (by omega)) hi.2.2.2.1 hi.2.2.2.2.1)

set_option maxRecDepth 100000 in
set_option maxHeartbeats 4000000 in
theorem l_st0 {G : pv_G} {d : Nat} {c : Nat → Int32} {e : Nat} {s first : Int32} {B : BR} {J : pv_I} {K : pv_L} {t : pv_T} {I : pv_I} {L : pv_L} {Rf : pv_R} (hT : sh_ok t) (hR : rf_ok Rf) (hW : WF J K) (hd : 8 ≤ d) (he : e ≤ 160)  {r : Nat} {I1 : pv_I} {L1 : pv_L} {l5 : Value} (hi : b_in c e s J K I L I1 L1 r)  (hB : B = b_st0 c e r J K) :
    pv_V G mX12_item d 0 0 (q_item B t I L Rf) 0 0 96 [.ref 61, .int first, .int 2, .int 2, .int 0, l5] [] t I1 L1 Rf := by
  refine pv_iload_4 (pc := 96) dX12_item_96 ?_
  refine pv_iload_3 (pc := 98) dX12_item_98 ?_
  refine pv_icmp_ge (pc := 99) (tgt := 273) dX12_item_99 (by decide) (fun q => absurd q (by decide)) (fun _ => ?_)
  refine pv_iload_4 (pc := 102) dX12_item_102 ?_
  refine pv_if_le (pc := 104) (tgt := 157) dX12_item_104 (by decide) (fun _ => ?_) (fun q => absurd q (by decide))
  have hi1 := hi
  refine pv_aload_0 (pc := 157) dX12_item_157 ?_
  refine pv_getI (pc := 158) dX12_item_158 fg_X12_169_12 rfl (by decide) (sx_61 hT) ?_
  refine pv_istore_5 (pc := 161) dX12_item_161 (by decide) rfl ?_
  refine pv_aload_0 (pc := 163) dX12_item_163 ?_
  refine pv_iload_2 (pc := 164) dX12_item_164 ?_
  refine pv_if_ne (pc := 165) (tgt := 178) dX12_item_165 (by decide) (fun _ => ?_) (fun q => absurd q (by decide))
  refine pv_iconst (pc := 178) (v := 0) dX12_item_178 (by decide) ?_
  refine pv_aload_0 (pc := 179) dX12_item_179 ?_
  refine pv_iload_2 (pc := 180) dX12_item_180 ?_
  refine pv_iload_4 (pc := 181) dX12_item_181 ?_
  refine pv_callV1 (pc := 183) dX12_item_183 mgX12_top lv_X12_198_12 (by decide) (sx_61 hT) (by omega) (c_X12_top20 hT) rfl rfl (Nat.le_of_ble_eq_true rfl) ?_
  refine pv_callVq (pc := 186) dX12_item_186 mgX12_number lv_X12_202_12 (by decide) (sx_61 hT) (by omega) (c_X12_number hT hR hi1.2.1 hi1.2.2.2.2.1 hi1.2.2.2.2.2 (by omega)) rfl rfl (by decide) (fun v t I L Rf hq => ?_)
  obtain ⟨rfl, rfl, rfl, hn, ho⟩ := hq
  rcases ho with ⟨pp, hb, rfl, hp1, hp2⟩ | ⟨hb, rfl, hp1⟩
  · have hle := b_num_le hb
    have hi2 := hi1.n hn hp1 (by omega)
    refine pv_if_ne (pc := 189) (tgt := 194) dX12_item_189 (by decide) (fun _ => ?_) (fun q => absurd q (by decide))
    refine pv_aload_0 (pc := 194) dX12_item_194 ?_
    refine pv_getR (pc := 195) dX12_item_195 fg_X12_61_12 rfl (by decide) (sx_61 hT) (rx_61_22 hR) ?_
    refine pv_iload_4 (pc := 198) dX12_item_198 ?_
    refine pv_aload_0 (pc := 200) dX12_item_200 ?_
    refine pv_getI (pc := 201) dX12_item_201 fg_X12_178_12 rfl (by decide) (sx_61 hT) ?_
    refine pv_iastorej (pc := 204) dX12_item_204 (by decide) (sx_75 hT) (j := 0) (by decide) (by unfold vp_in; decide) ?_
    refine pv_iload_2 (pc := 205) dX12_item_205 ?_
    refine pv_iconst (pc := 206) (v := 2) dX12_item_206 (by decide) ?_
    refine pv_icmp_ne (pc := 207) (tgt := 244) dX12_item_207 (by decide) (fun q => absurd q (by decide)) (fun _ => ?_)
    refine pv_iload_4 (pc := 210) dX12_item_210 ?_
    refine pv_iconst (pc := 212) (v := 1) dX12_item_212 (by decide) ?_
    refine pv_icmp_ne (pc := 213) (tgt := 244) dX12_item_213 (by decide) (fun _ => ?_) (fun q => absurd q (by decide))
    refine pv_iload_2 (pc := 244) dX12_item_244 ?_
    refine pv_iconst (pc := 245) (v := 1) dX12_item_245 (by decide) ?_
    refine pv_icmp_ne (pc := 246) (tgt := 267) dX12_item_246 (by decide) (fun _ => ?_) (fun q => absurd q (by decide))
    refine pv_iinc_4 (pc := 267) (v := 1) dX12_item_267 (by decide) (by decide) rfl ?_
    refine pv_goto (pc := 270) (tgt := 96) dX12_item_270 (by decide) ?_
    refine l_st1 (k := pp.2) hT hR hW hd he (hi2.t 0 (I 61 26)) ?_ ?_
    · show I 61 26 = pp.2
      exact hp2
    · rw [hB, b_st0, hb]
  · skip
    refine pv_if_ne (pc := 189) (tgt := 194) dX12_item_189 (by decide) (fun q => absurd q (by decide)) (fun _ => ?_)
    refine pv_iconst (pc := 192) (v := 0) dX12_item_192 (by decide) ?_
    refine pv_iret (pc := 193) dX12_item_193 rfl rfl ?_
    exact q_bad (by rw [hB, b_st0, hb]) (hi1.2.2.1.tr hn.bI) hi1.2.2.2.1 hp1

set_option maxRecDepth 100000 in
set_option maxHeartbeats 4000000 in
theorem l_cl1 {G : pv_G} {d : Nat} {c : Nat → Int32} {e : Nat} {s first : Int32} {B : BR} {J : pv_I} {K : pv_L} {t : pv_T} {I : pv_I} {L : pv_L} {Rf : pv_R} (hT : sh_ok t) (hR : rf_ok Rf) (hW : WF J K) (hd : 8 ≤ d) (he : e ≤ 160) {r : Nat} {I1 : pv_I} {L1 : pv_L} {l5 : Value} {J1 : pv_I} {K1 : pv_L} (hm : RM J1 K1 I1 L1) (hI : bI I I1) (hL : bL L L1) (h24 : I1 61 24 = Int32.ofNat r) (hB : B = .ok (r, J1, K1)) :
    pv_V G mX12_item d 0 0 (q_item B t I L Rf) 0 0 96 [.ref 61, .int first, .int 1, .int 1, .int 1, l5] [] t I1 L1 Rf := by
  refine pv_iload_4 (pc := 96) dX12_item_96 ?_
  refine pv_iload_3 (pc := 98) dX12_item_98 ?_
  refine pv_icmp_ge (pc := 99) (tgt := 273) dX12_item_99 (by decide) (fun _ => ?_) (fun q => absurd q (by decide))
  refine pv_iload_2 (pc := 273) dX12_item_273 ?_
  refine pv_if_ne (pc := 274) (tgt := 300) dX12_item_274 (by decide) (fun _ => ?_) (fun q => absurd q (by decide))
  refine pv_iload_2 (pc := 300) dX12_item_300 ?_
  refine pv_iconst (pc := 301) (v := 2) dX12_item_301 (by decide) ?_
  refine pv_icmp_ne (pc := 302) (tgt := 327) dX12_item_302 (by decide) (fun _ => ?_) (fun q => absurd q (by decide))
  refine pv_iconst (pc := 327) (v := 1) dX12_item_327 (by decide) ?_
  refine pv_iret (pc := 328) dX12_item_328 rfl rfl ?_
  exact q_good hB hI hL hm h24

theorem i_tops {J : pv_I} {K : pv_L} (hW : WF J K) {x : Int32} (h : x ≤ J 0 0 - 1) : x < J 0 0 := by
  have w := hW.1
  rw [i_le, Jvm.Kit.i32_sub (by rw [show (1 : Int32).toInt = 1 by decide]; omega) (by rw [show (1 : Int32).toInt = 1 by decide]; omega), show (1 : Int32).toInt = 1 by decide] at h
  rw [i_lt]; omega
set_option maxRecDepth 100000 in
set_option maxHeartbeats 4000000 in
theorem l_cl0 {G : pv_G} {d : Nat} {c : Nat → Int32} {e : Nat} {s first : Int32} {B : BR} {J : pv_I} {K : pv_L} {t : pv_T} {I : pv_I} {L : pv_L} {Rf : pv_R} (hT : sh_ok t) (hR : rf_ok Rf) (hW : WF J K) (hd : 8 ≤ d) (he : e ≤ 160)  {r : Nat} {I1 : pv_I} {L1 : pv_L} {l5 : Value} (hi : b_in c e s J K I L I1 L1 r)  (hB : B = b_cl0 c e r J K) :
    pv_V G mX12_item d 0 0 (q_item B t I L Rf) 0 0 96 [.ref 61, .int first, .int 1, .int 1, .int 0, l5] [] t I1 L1 Rf := by
  refine pv_iload_4 (pc := 96) dX12_item_96 ?_
  refine pv_iload_3 (pc := 98) dX12_item_98 ?_
  refine pv_icmp_ge (pc := 99) (tgt := 273) dX12_item_99 (by decide) (fun q => absurd q (by decide)) (fun _ => ?_)
  refine pv_iload_4 (pc := 102) dX12_item_102 ?_
  refine pv_if_le (pc := 104) (tgt := 157) dX12_item_104 (by decide) (fun _ => ?_) (fun q => absurd q (by decide))
  have hi1 := hi
  refine pv_aload_0 (pc := 157) dX12_item_157 ?_
  refine pv_getI (pc := 158) dX12_item_158 fg_X12_169_12 rfl (by decide) (sx_61 hT) ?_
  refine pv_istore_5 (pc := 161) dX12_item_161 (by decide) rfl ?_
  refine pv_aload_0 (pc := 163) dX12_item_163 ?_
  refine pv_iload_2 (pc := 164) dX12_item_164 ?_
  refine pv_if_ne (pc := 165) (tgt := 178) dX12_item_165 (by decide) (fun _ => ?_) (fun q => absurd q (by decide))
  refine pv_iconst (pc := 178) (v := 0) dX12_item_178 (by decide) ?_
  refine pv_aload_0 (pc := 179) dX12_item_179 ?_
  refine pv_iload_2 (pc := 180) dX12_item_180 ?_
  refine pv_iload_4 (pc := 181) dX12_item_181 ?_
  refine pv_callV1 (pc := 183) dX12_item_183 mgX12_top lv_X12_198_12 (by decide) (sx_61 hT) (by omega) (c_X12_top10 hT) rfl rfl (Nat.le_of_ble_eq_true rfl) ?_
  refine pv_topv2 (y := J 0 0 - 1) (congrArg (fun z => z - 1) hi1.1.1.1) ?_
  refine pv_callVq (pc := 186) dX12_item_186 mgX12_number lv_X12_202_12 (by decide) (sx_61 hT) (by omega) (c_X12_number hT hR hi1.2.1 hi1.2.2.2.2.1 hi1.2.2.2.2.2 (by omega)) rfl rfl (by decide) (fun v t I L Rf hq => ?_)
  obtain ⟨rfl, rfl, rfl, hn, ho⟩ := hq
  rcases ho with ⟨pp, hb, rfl, hp1, hp2⟩ | ⟨hb, rfl, hp1⟩
  · have hle := b_num_le hb
    have hi2 := hi1.n hn hp1 (by omega)
    refine pv_if_ne (pc := 189) (tgt := 194) dX12_item_189 (by decide) (fun _ => ?_) (fun q => absurd q (by decide))
    refine pv_aload_0 (pc := 194) dX12_item_194 ?_
    refine pv_getR (pc := 195) dX12_item_195 fg_X12_61_12 rfl (by decide) (sx_61 hT) (rx_61_22 hR) ?_
    refine pv_iload_4 (pc := 198) dX12_item_198 ?_
    refine pv_aload_0 (pc := 200) dX12_item_200 ?_
    refine pv_getI (pc := 201) dX12_item_201 fg_X12_178_12 rfl (by decide) (sx_61 hT) ?_
    refine pv_iastorej (pc := 204) dX12_item_204 (by decide) (sx_75 hT) (j := 0) (by decide) (by unfold vp_in; decide) ?_
    refine pv_iload_2 (pc := 205) dX12_item_205 ?_
    refine pv_iconst (pc := 206) (v := 2) dX12_item_206 (by decide) ?_
    refine pv_icmp_ne (pc := 207) (tgt := 244) dX12_item_207 (by decide) (fun _ => ?_) (fun q => absurd q (by decide))
    refine pv_iload_2 (pc := 244) dX12_item_244 ?_
    refine pv_iconst (pc := 245) (v := 1) dX12_item_245 (by decide) ?_
    refine pv_icmp_ne (pc := 246) (tgt := 267) dX12_item_246 (by decide) (fun q => absurd q (by decide)) (fun _ => ?_)
    refine pv_aload_0 (pc := 249) dX12_item_249 ?_
    refine pv_aload_0 (pc := 250) dX12_item_250 ?_
    refine pv_getI (pc := 251) dX12_item_251 fg_X12_178_12 rfl (by decide) (sx_61 hT) ?_
    refine pv_topv2 (y := pp.2) hp2 ?_
    have hi3 := hi2.t 0 (I 61 26)
    have hbt := b_num_top hb
    have hF : w_isF J pp.2 := ⟨hbt.1, i_tops hW hbt.2.1⟩
    refine pv_callVq (pc := 254) dX12_item_254 mgX12_calls lv_X12_206_12 (by decide) (sx_61 hT) (by omega) (c_X12_callsF hT hR hW hi3.1 hF (by omega)) rfl rfl (by decide) (fun v t I L Rf hq => ?_)
    obtain ⟨rfl, rfl, rfl, hM4, hI4, hL4, h24⟩ := hq
    refine pv_if_ne (pc := 257) (tgt := 267) dX12_item_257 (by decide) (fun h257 => ?_) (fun h257 => ?_)
    · refine pv_iinc_4 (pc := 267) (v := 1) dX12_item_267 (by decide) (by decide) rfl ?_
      refine pv_goto (pc := 270) (tgt := 96) dX12_item_270 (by decide) ?_
      have f1 : (w_cal J K pp.2.toNatClampNeg).1 = true := (pv_b_n0 _).mp h257
      refine l_cl1 (c := c) (s := s) hT hR hW hd he hM4 (hi3.2.2.1.tr hI4) (hi3.2.2.2.1.tr hL4) (h24.trans hi3.2.2.2.2.1) ?_
      rw [hB, b_cl0, hb]; show (if (w_cal J K pp.2.toNatClampNeg).1 = true then _ else _) = _; rw [if_pos f1]
    · refine pv_aload_0 (pc := 260) dX12_item_260 ?_
      refine pv_iload_5 (pc := 261) dX12_item_261 ?_
      refine pv_callV1 (pc := 263) dX12_item_263 mgX12_wrong lv_X12_185_12 (by decide) (sx_61 hT) (by omega) (c_X12_wrong hT) rfl rfl (by decide) ?_
      refine pv_iret (pc := 266) dX12_item_266 rfl rfl ?_
      have f1 : (w_cal J K pp.2.toNatClampNeg).1 = false := (pv_b_0 _).mp h257
      exact q_bad (by rw [hB, b_cl0, hb]; show (if (w_cal J K pp.2.toNatClampNeg).1 = true then _ else _) = _; rw [if_neg (by rw [f1]; decide)]) ((hi3.2.2.1.tr hI4).u 61 27 _ (by omega)) (hi3.2.2.2.1.tr hL4) hi.2.2.2.2.1
  · skip
    refine pv_if_ne (pc := 189) (tgt := 194) dX12_item_189 (by decide) (fun q => absurd q (by decide)) (fun _ => ?_)
    refine pv_iconst (pc := 192) (v := 0) dX12_item_192 (by decide) ?_
    refine pv_iret (pc := 193) dX12_item_193 rfl rfl ?_
    exact q_bad (by rw [hB, b_cl0, hb]) (hi1.2.2.1.tr hn.bI) hi1.2.2.2.1 hp1

