/-! the class: crowds -/
theorem x_lit2 : (320 : Int32).toInt = 320 ∧ (1024 : Int32).toInt = 1024 := by decide
def x_hx (p q : Int64) : Int32 := ((((p * 31 + q) * -7046029254386353131).toUInt64 >>> ((54 : Int32).toInt64.toUInt64 &&& Int64.toUInt64 63)).toInt64).toInt32 &&& 1023
def x_h (x : Int64 × Int64) : Nat := (x_hx x.1 x.2).toNatClampNeg
theorem x_hx_of (p q : Int64) : x_hx p q = Int32.ofNat ((x_h (p, q) + 0) % 1024) := by
  have h : 0 ≤ (x_hx p q).toInt ∧ (x_hx p q).toInt < 1024 := x_and
  have hl := i_lit (x_hx p q)
  have e : (x_h (p, q) + 0) % 1024 = (x_hx p q).toNatClampNeg := by show ((x_hx p q).toNatClampNeg + 0) % 1024 = _; omega
  rw [e, ← Int32.toInt_inj, i_of (by omega)]; omega
def cr_ok (t : pv_T) (Rf : pv_R) (a : Nat) : Prop := 16 ≤ a ∧ t.1 a = some (.inr 2) ∧ t.1 (a + 1) = some (.inl (.long, 320)) ∧ t.1 (a + 2) = some (.inl (.long, 320)) ∧ t.1 (a + 3) = some (.inl (.int, 320)) ∧ t.1 (a + 4) = some (.inl (.int, 1024)) ∧ Rf a 0 = some (a + 1) ∧ Rf a 1 = some (a + 2) ∧ Rf a 2 = some (a + 3) ∧ Rf a 3 = some (a + 4)
theorem cr_35 {t : pv_T} {Rf : pv_R} (hT : sh_ok t) (hR : rf_ok Rf) : cr_ok t Rf 35 := ⟨by decide, sx_35 hT, sx_36 hT, sx_37 hT, sx_38 hT, sx_39 hT, rx_35_0 hR, rx_35_1 hR, rx_35_2 hR, rx_35_3 hR⟩
theorem cr_40 {t : pv_T} {Rf : pv_R} (hT : sh_ok t) (hR : rf_ok Rf) : cr_ok t Rf 40 := ⟨by decide, sx_40 hT, sx_41 hT, sx_42 hT, sx_43 hT, sx_44 hT, rx_40_0 hR, rx_40_1 hR, rx_40_2 hR, rx_40_3 hR⟩
def XC (a : Nat) (cl : CL) (I : pv_I) (L : pv_L) : Prop := I a 4 = Int32.ofNat cl.length ∧ cl.length ≤ 319 ∧ (c_keys cl).Nodup ∧ (∀ (j : Nat) e, cl[j]? = some e → L (a + 1) j = e.1.1 ∧ L (a + 2) j = e.1.2 ∧ I (a + 3) j = e.2) ∧ h_ok x_h (I (a + 4)) (c_keys cl)
def cG (a : Nat) (I : pv_I) (L : pv_L) (I1 : pv_I) (L1 : pv_L) : Prop := (∀ b j, ¬ (a ≤ b ∧ b ≤ a + 4) → I1 b j = I b j) ∧ ∀ b j, ¬ (a ≤ b ∧ b ≤ a + 4) → L1 b j = L b j
theorem cG.rf {a : Nat} {I : pv_I} {L : pv_L} : cG a I L I L := ⟨fun _ _ _ => rfl, fun _ _ _ => rfl⟩
theorem cG.tr {a : Nat} {I I1 I2 : pv_I} {L L1 L2 : pv_L} (h : cG a I L I1 L1) (g : cG a I1 L1 I2 L2) : cG a I L I2 L2 := ⟨fun b j q => (g.1 b j q).trans (h.1 b j q), fun b j q => (g.2 b j q).trans (h.2 b j q)⟩
theorem cG.uI {a : Nat} {I I1 : pv_I} {L L1 : pv_L} (h : cG a I L I1 L1) (b j : Nat) (v : Int32) (hb : a ≤ b ∧ b ≤ a + 4) : cG a I L (pv_u I1 b j v) L1 := ⟨fun c k q => by rw [pv_u_o _ (by omega)]; exact h.1 c k q, h.2⟩
theorem cG.uL {a : Nat} {I I1 : pv_I} {L L1 : pv_L} (h : cG a I L I1 L1) (b j : Nat) (v : Int64) (hb : a ≤ b ∧ b ≤ a + 4) : cG a I L I1 (pv_u L1 b j v) := ⟨h.1, fun c k q => by rw [pv_u_o _ (by omega)]; exact h.2 c k q⟩
theorem cG.kC {a : Nat} {I I1 : pv_I} {L L1 : pv_L} (h : cG a I L I1 L1) (ha : a = 35 ∨ a = 40) : kC I L I1 L1 := ⟨fun b j q _ => h.1 b j (by omega), fun b j q => h.2 b j (by omega)⟩
theorem XC.cg {a : Nat} {cl : CL} {I I1 : pv_I} {L L1 : pv_L} (h : XC a cl I L) (g4 : I1 a 4 = I a 4) (h1 : ∀ j, L1 (a + 1) j = L (a + 1) j) (h2 : ∀ j, L1 (a + 2) j = L (a + 2) j) (h3 : ∀ j, I1 (a + 3) j = I (a + 3) j) (h4 : ∀ j, I1 (a + 4) j = I (a + 4) j) : XC a cl I1 L1 := by
  obtain ⟨x1, x2, x3, x4, x5⟩ := h
  exact ⟨g4.trans x1, x2, x3, fun j e he => by rw [h1, h2, h3]; exact x4 j e he, h_ok_cg x5 (fun j _ => h4 j)⟩
theorem XC.fr {a g : Nat} {cl : CL} {I I1 : pv_I} {L L1 : pv_L} (h : XC g cl I L) (k : cG a I L I1 L1) (ha : a + 5 ≤ g ∨ g + 5 ≤ a) : XC g cl I1 L1 := h.cg (k.1 _ _ (by omega)) (fun j => k.2 _ _ (by omega)) (fun j => k.2 _ _ (by omega)) (fun j => k.1 _ _ (by omega)) (fun j => k.1 _ _ (by omega))
theorem c_keys_at {cl : CL} {i : Nat} {e : (Int64 × Int64) × Int32} (h : cl[i]? = some e) : (c_keys cl)[i]? = some e.1 := by rw [c_keys, List.getElem?_map, h]; rfl
theorem c_keys_len (cl : CL) : (c_keys cl).length = cl.length := List.length_map ..
theorem XC.new {a : Nat} {cl : CL} {I : pv_I} {L : pv_L} (hX : XC a cl I L) (hcap : cl.length + 1 ≤ 319) {x : Int64 × Int64} {n : Int32} {r : Nat} (h0 : I (a + 4) r = 0) (hn : x ∉ c_keys cl) (hk : ∃ k, k < 1024 ∧ r = (x_h x + k) % 1024 ∧ ∀ m, m < k → I (a + 4) ((x_h x + m) % 1024) ≠ 0) : XC a (cl ++ [(x, n)]) (pv_u (pv_u (pv_u I (a + 3) cl.length n) a 4 (Int32.ofNat (cl.length + 1))) (a + 4) r (Int32.ofNat (cl.length + 1))) (pv_u (pv_u L (a + 1) cl.length x.1) (a + 2) cl.length x.2) := by
  obtain ⟨x1, x2, x3, x4, x5⟩ := hX
  obtain ⟨k, k1, k2, k3⟩ := hk
  have ek : c_keys (cl ++ [(x, n)]) = c_keys cl ++ [x] := by simp [c_keys]
  refine ⟨?_, by rw [List.length_append, List.length_singleton]; omega, ?_, fun j e he => ?_, ?_⟩
  · rw [pv_u_o _ (by omega), pv_u_eq, if_pos rfl, List.length_append, List.length_singleton]
  · rw [← c_add_new x n cl hn]; exact c_add_nd _ _ _ x3
  · by_cases hj : j < cl.length
    · rw [List.getElem?_append_left hj] at he
      rw [pv_u_o _ (by omega), pv_u_o _ (by omega), pv_u_o _ (by omega), pv_u_o _ (by omega), pv_u_o _ (by omega), pv_u_o _ (by omega), pv_u_o _ (by omega)]
      exact x4 j e he
    · have hl := (List.getElem?_eq_some_iff.mp he).1
      rw [List.length_append, List.length_singleton] at hl
      have e2 : j = cl.length := by omega
      subst e2
      rw [List.getElem?_append_right (Nat.le_refl _), Nat.sub_self] at he
      cases he
      rw [pv_u_o _ (by omega), pv_u_eq, if_pos rfl, pv_u_eq, if_pos rfl, pv_u_o _ (by omega), pv_u_o _ (by omega), pv_u_eq, if_pos rfl]
      exact ⟨rfl, rfl, rfl⟩
  · rw [ek]
    refine h_ok_cg (h_ok_add x5 (by rw [c_keys_len]; omega) h0 k1 k2 k3) (fun j _ => ?_)
    rw [c_keys_len]
    by_cases e : j = r
    · subst e; rw [pv_u_eq, if_pos rfl, if_pos rfl]
    · rw [pv_u_o _ (by omega), pv_u_o _ (by omega), pv_u_o _ (by omega), if_neg e]
theorem XC.old {a : Nat} {cl : CL} {I : pv_I} {L : pv_L} (hX : XC a cl I L) {x : Int64 × Int64} {n m : Int32} {i : Nat} (he : cl[i]? = some (x, n)) : XC a (c_add x m cl) (pv_u I (a + 3) i (I (a + 3) i + m)) L := by
  obtain ⟨x1, x2, x3, x4, x5⟩ := hX
  have hi := (List.getElem?_eq_some_iff.mp he).1
  have eq := c_add_old x m cl i n x3 he
  have ek : c_keys (c_add x m cl) = c_keys cl := by
    rw [eq, c_keys, List.map_set]
    refine List.ext_getElem? (fun j => ?_)
    rw [List.getElem?_set]
    split
    · next h => subst h; rw [if_pos (by rw [List.length_map]; exact hi)]; exact (c_keys_at he).symm
    · rfl
  refine ⟨by rw [pv_u_o _ (by omega), eq, List.length_set]; exact x1, by rw [eq, List.length_set]; exact x2, by rw [ek]; exact x3, fun j e hj => ?_, ?_⟩
  · rw [eq, List.getElem?_set] at hj
    split at hj
    · next h =>
      subst h
      cases hj
      obtain ⟨y1, y2, y3⟩ := x4 i _ he
      exact ⟨y1, y2, by rw [pv_u_eq, if_pos rfl, y3]⟩
    · next h =>
      obtain ⟨y1, y2, y3⟩ := x4 j e hj
      exact ⟨y1, y2, by rw [pv_u_o _ (by omega)]; exact y3⟩
  · rw [ek]
    exact h_ok_cg x5 (fun j _ => pv_u_o _ (by omega))

set_option maxRecDepth 100000 in
set_option maxHeartbeats 4000000 in
theorem l_slot {G : pv_G} {d : Nat} {p q : Int64} {a : Nat} {cl : CL} {t : pv_T} {I : pv_I} {L : pv_L} {Rf : pv_R} (hc : cr_ok t Rf a) (hX : XC a cl I L) {k0 : Nat} (hk0 : k0 < 1024) (h0 : I (a + 4) ((x_h (p, q) + k0) % 1024) = 0) : ∀ (m k : Nat) (l7 : Value), k + m = k0 → (∀ j, j < k → ∃ i y, I (a + 4) ((x_h (p, q) + j) % 1024) = Int32.ofNat (i + 1) ∧ i < (c_keys cl).length ∧ (c_keys cl)[i]? = some y ∧ y ≠ (p, q)) → pv_V G mX2_slotOf d 0 0 (fun v t1 I1 L1 R1 => (∃ r, v = some (.int (Int32.ofNat r)) ∧ h_end x_h (I (a + 4)) (c_keys cl) (p, q) r) ∧ t1 = t ∧ I1 = I ∧ L1 = L ∧ R1 = Rf) 0 0 24 [.ref a, .long p, .retAddr 0, .long q, .retAddr 0, .int (Int32.ofNat ((x_h (p, q) + k) % 1024)), .int (Int32.ofNat k), l7] [] t I L Rf := by
  have hx2 := hX.2.1
  have hkl : (c_keys cl).length < 1024 := by rw [c_keys_len]; omega
  intro m
  induction m with
  | zero =>
    intro k l7 hk hm
    have ej := i_nat (k := (x_h (p, q) + k) % 1024) (by omega)
    have s0 : I (a + 4) ((x_h (p, q) + k) % 1024) = 0 := by rw [show k = k0 by omega]; exact h0
    refine pv_iload_6 (pc := 24) dX2_slotOf_24 ?_
    refine pv_sipush (pc := 26) (v := 1024) dX2_slotOf_26 (by decide) ?_
    refine pv_icmp_ge (pc := 29) (tgt := 99) dX2_slotOf_29 (by decide) (fun h29 => absurd h29 (by have e0 := i_of (k := k) (by omega); have q := x_lits; have q2 := x_lit2; simp only [i_lt]; omega)) (fun h29 => ?_)
    refine pv_aload_0 (pc := 32) dX2_slotOf_32 ?_
    refine pv_getR (pc := 33) dX2_slotOf_33 fg_X2_20_2 rfl hc.1 hc.2.1 hc.2.2.2.2.2.2.2.2.2 ?_
    refine pv_iload_5 (pc := 36) dX2_slotOf_36 ?_
    refine pv_ialoadj (pc := 38) dX2_slotOf_38 hc.2.2.2.2.2.1 rfl (i_in (k := (x_h (p, q) + k) % 1024) (Nat.mod_lt _ (by decide)) (by decide)) ?_
    refine pv_iconst (pc := 39) (v := 1) dX2_slotOf_39 (by decide) ?_
    refine pv_isub (pc := 40) dX2_slotOf_40 ?_
    refine pv_topv2 (y := -1) (by rw [ej, s0]; decide) ?_
    refine pv_istore_7 (pc := 41) dX2_slotOf_41 (by decide) rfl ?_
    refine pv_iload_7 (pc := 43) dX2_slotOf_43 ?_
    refine pv_if_lt (pc := 45) (tgt := 80) dX2_slotOf_45 (by decide) (fun _ => ?_) (fun q => absurd q (by decide))
    refine pv_iload_5 (pc := 80) dX2_slotOf_80 ?_
    refine pv_iret (pc := 82) dX2_slotOf_82 rfl rfl ?_
    exact ⟨⟨_, rfl, h_none hX.2.2.2.2 hkl (by omega) s0 hm⟩, rfl, rfl, rfl, rfl⟩
  | succ m ih =>
    intro k l7 hk hm
    have ej := i_nat (k := (x_h (p, q) + k) % 1024) (by omega)
    rcases hX.2.2.2.2.1 _ (Nat.mod_lt (x_h (p, q) + k) (by decide : 1024 > 0)) with s0 | ⟨i, hi, s1⟩
    · skip
      refine pv_iload_6 (pc := 24) dX2_slotOf_24 ?_
      refine pv_sipush (pc := 26) (v := 1024) dX2_slotOf_26 (by decide) ?_
      refine pv_icmp_ge (pc := 29) (tgt := 99) dX2_slotOf_29 (by decide) (fun h29 => absurd h29 (by have e0 := i_of (k := k) (by omega); have q := x_lits; have q2 := x_lit2; simp only [i_lt]; omega)) (fun h29 => ?_)
      refine pv_aload_0 (pc := 32) dX2_slotOf_32 ?_
      refine pv_getR (pc := 33) dX2_slotOf_33 fg_X2_20_2 rfl hc.1 hc.2.1 hc.2.2.2.2.2.2.2.2.2 ?_
      refine pv_iload_5 (pc := 36) dX2_slotOf_36 ?_
      refine pv_ialoadj (pc := 38) dX2_slotOf_38 hc.2.2.2.2.2.1 rfl (i_in (k := (x_h (p, q) + k) % 1024) (Nat.mod_lt _ (by decide)) (by decide)) ?_
      refine pv_iconst (pc := 39) (v := 1) dX2_slotOf_39 (by decide) ?_
      refine pv_isub (pc := 40) dX2_slotOf_40 ?_
      refine pv_topv2 (y := -1) (by rw [ej, s0]; decide) ?_
      refine pv_istore_7 (pc := 41) dX2_slotOf_41 (by decide) rfl ?_
      refine pv_iload_7 (pc := 43) dX2_slotOf_43 ?_
      refine pv_if_lt (pc := 45) (tgt := 80) dX2_slotOf_45 (by decide) (fun _ => ?_) (fun q => absurd q (by decide))
      refine pv_iload_5 (pc := 80) dX2_slotOf_80 ?_
      refine pv_iret (pc := 82) dX2_slotOf_82 rfl rfl ?_
      exact ⟨⟨_, rfl, h_none hX.2.2.2.2 hkl (by omega) s0 hm⟩, rfl, rfl, rfl, rfl⟩
    · have hil : i < cl.length := by rw [← c_keys_len]; exact hi
      have ei := i_nat (k := i) (by omega)
      obtain ⟨e, he⟩ : ∃ e, cl[i]? = some e := ⟨_, List.getElem?_eq_getElem hil⟩
      obtain ⟨z1, z2, z3⟩ := hX.2.2.2.1 i e he
      refine pv_iload_6 (pc := 24) dX2_slotOf_24 ?_
      refine pv_sipush (pc := 26) (v := 1024) dX2_slotOf_26 (by decide) ?_
      refine pv_icmp_ge (pc := 29) (tgt := 99) dX2_slotOf_29 (by decide) (fun h29 => absurd h29 (by have e0 := i_of (k := k) (by omega); have q := x_lits; have q2 := x_lit2; simp only [i_lt]; omega)) (fun h29 => ?_)
      refine pv_aload_0 (pc := 32) dX2_slotOf_32 ?_
      refine pv_getR (pc := 33) dX2_slotOf_33 fg_X2_20_2 rfl hc.1 hc.2.1 hc.2.2.2.2.2.2.2.2.2 ?_
      refine pv_iload_5 (pc := 36) dX2_slotOf_36 ?_
      refine pv_ialoadj (pc := 38) dX2_slotOf_38 hc.2.2.2.2.2.1 rfl (i_in (k := (x_h (p, q) + k) % 1024) (Nat.mod_lt _ (by decide)) (by decide)) ?_
      refine pv_iconst (pc := 39) (v := 1) dX2_slotOf_39 (by decide) ?_
      refine pv_isub (pc := 40) dX2_slotOf_40 ?_
      refine pv_topv2 (y := Int32.ofNat i) (by rw [ej, s1, ← i_inc]; grind) ?_
      refine pv_istore_7 (pc := 41) dX2_slotOf_41 (by decide) rfl ?_
      refine pv_iload_7 (pc := 43) dX2_slotOf_43 ?_
      refine pv_if_lt (pc := 45) (tgt := 80) dX2_slotOf_45 (by decide) (fun h45 => absurd h45 (by have e0 := i_of (k := i) (by omega); have q := x_lits; have q2 := x_lit2; simp only [i_lt]; omega)) (fun h45 => ?_)
      refine pv_iload_7 (pc := 48) dX2_slotOf_48 ?_
      refine pv_sipush (pc := 50) (v := 320) dX2_slotOf_50 (by decide) ?_
      refine pv_icmp_ge (pc := 53) (tgt := 80) dX2_slotOf_53 (by decide) (fun h53 => absurd h53 (by have e0 := i_of (k := i) (by omega); have q := x_lits; have q2 := x_lit2; simp only [i_lt]; omega)) (fun h53 => ?_)
      refine pv_aload_0 (pc := 56) dX2_slotOf_56 ?_
      refine pv_getR (pc := 57) dX2_slotOf_57 fg_X2_9_2 rfl hc.1 hc.2.1 hc.2.2.2.2.2.2.1 ?_
      refine pv_iload_7 (pc := 60) dX2_slotOf_60 ?_
      refine pv_laloadj (pc := 62) dX2_slotOf_62 (by have := hc.1; omega) hc.2.2.1 rfl (i_in (k := i) (by omega) (by decide)) ?_
      refine pv_lload_1 (pc := 63) dX2_slotOf_63 ?_
      refine pv_lcmp_ne (pc := 64) (tgt := 83) dX2_slotOf_64 dX2_slotOf_65 (by decide) (fun h64 => ?_) (fun h64 => ?_)
      · refine pv_iload_5 (pc := 83) dX2_slotOf_83 ?_
        refine pv_iconst (pc := 85) (v := 1) dX2_slotOf_85 (by decide) ?_
        refine pv_iadd (pc := 86) dX2_slotOf_86 ?_
        refine pv_sipush (pc := 87) (v := 1023) dX2_slotOf_87 (by decide) ?_
        refine pv_iand (pc := 90) dX2_slotOf_90 ?_
        refine pv_topv2 (y := Int32.ofNat ((x_h (p, q) + (k + 1)) % 1024)) (by rw [x_nx _ (Nat.mod_lt _ (by decide))]; congr 1; omega) ?_
        refine pv_istore_5 (pc := 91) dX2_slotOf_91 (by decide) rfl ?_
        refine pv_iinc_6 (pc := 93) (v := _ + 1) dX2_slotOf_93 rfl (by decide) rfl ?_
        refine pv_goto (pc := 96) (tgt := 24) dX2_slotOf_96 (by decide) ?_
        rw [i_inc]
        refine ih (k + 1) _ (by omega) (fun j hj => ?_)
        by_cases ejk : j = k
        · subst ejk
          refine ⟨i, e.1, s1, hi, c_keys_at he, fun q1 => ?_⟩
          first
            | (have f1 := h64; rw [ei, z1, q1] at f1; exact f1 rfl)
            | (have f2 := h76; rw [ei, z2, q1] at f2; exact f2 rfl)
        · exact hm j (by omega)
      · refine pv_aload_0 (pc := 68) dX2_slotOf_68 ?_
        refine pv_getR (pc := 69) dX2_slotOf_69 fg_X2_13_2 rfl hc.1 hc.2.1 hc.2.2.2.2.2.2.2.1 ?_
        refine pv_iload_7 (pc := 72) dX2_slotOf_72 ?_
        refine pv_laloadj (pc := 74) dX2_slotOf_74 (by have := hc.1; omega) hc.2.2.2.1 rfl (i_in (k := i) (by omega) (by decide)) ?_
        refine pv_lload_3 (pc := 75) dX2_slotOf_75 ?_
        refine pv_lcmp_ne (pc := 76) (tgt := 83) dX2_slotOf_76 dX2_slotOf_77 (by decide) (fun h76 => ?_) (fun h76 => ?_)
        · refine pv_iload_5 (pc := 83) dX2_slotOf_83 ?_
          refine pv_iconst (pc := 85) (v := 1) dX2_slotOf_85 (by decide) ?_
          refine pv_iadd (pc := 86) dX2_slotOf_86 ?_
          refine pv_sipush (pc := 87) (v := 1023) dX2_slotOf_87 (by decide) ?_
          refine pv_iand (pc := 90) dX2_slotOf_90 ?_
          refine pv_topv2 (y := Int32.ofNat ((x_h (p, q) + (k + 1)) % 1024)) (by rw [x_nx _ (Nat.mod_lt _ (by decide))]; congr 1; omega) ?_
          refine pv_istore_5 (pc := 91) dX2_slotOf_91 (by decide) rfl ?_
          refine pv_iinc_6 (pc := 93) (v := _ + 1) dX2_slotOf_93 rfl (by decide) rfl ?_
          refine pv_goto (pc := 96) (tgt := 24) dX2_slotOf_96 (by decide) ?_
          rw [i_inc]
          refine ih (k + 1) _ (by omega) (fun j hj => ?_)
          by_cases ejk : j = k
          · subst ejk
            refine ⟨i, e.1, s1, hi, c_keys_at he, fun q1 => ?_⟩
            first
              | (have f1 := h64; rw [ei, z1, q1] at f1; exact f1 rfl)
              | (have f2 := h76; rw [ei, z2, q1] at f2; exact f2 rfl)
          · exact hm j (by omega)
        · refine pv_iload_5 (pc := 80) dX2_slotOf_80 ?_
          refine pv_iret (pc := 82) dX2_slotOf_82 rfl rfl ?_
          have f1 := h64
          have f2 := h76
          rw [ei, z1] at f1
          rw [ei, z2] at f2
          refine ⟨⟨_, rfl, Nat.mod_lt _ (by decide), Or.inr ⟨i, hi, s1, ?_⟩⟩, rfl, rfl, rfl, rfl⟩
          rw [c_keys_at he]
          exact congrArg some (Prod.ext (by first | exact f1 | exact Classical.not_not.mp f1) (by first | exact f2 | exact Classical.not_not.mp f2))

set_option maxRecDepth 100000 in
set_option maxHeartbeats 4000000 in
theorem c_X2_slotOf {G : pv_G} {d : Nat} {p q : Int64} {a : Nat} {cl : CL} {t : pv_T} {I : pv_I} {L : pv_L} {Rf : pv_R} (hc : cr_ok t Rf a) (hX : XC a cl I L)  : pv_Mt G mX2_slotOf d 0 0 [.ref a, .long p, .long q] t I L Rf (fun v t1 I1 L1 R1 => (∃ r, v = some (.int (Int32.ofNat r)) ∧ h_end x_h (I (a + 4)) (c_keys cl) (p, q) r) ∧ t1 = t ∧ I1 = I ∧ L1 = L ∧ R1 = Rf) := by
  refine pv_mt mgX2_slotOf.2.2.2.2.2 [.ref a, .long p, .retAddr 0, .long q, .retAddr 0, .retAddr 0, .retAddr 0, .retAddr 0] rfl (Nat.le_of_ble_eq_true rfl) ?_
  refine pv_lload_1 (pc := 0) dX2_slotOf_0 ?_
  refine pv_ldc2 (pc := 1) dX2_slotOf_1 k_X2_70 ?_
  refine pv_lmul (pc := 4) dX2_slotOf_4 ?_
  refine pv_lload_3 (pc := 5) dX2_slotOf_5 ?_
  refine pv_ladd (pc := 6) dX2_slotOf_6 ?_
  refine pv_ldc2 (pc := 7) dX2_slotOf_7 k_X2_72 ?_
  refine pv_lmul (pc := 10) dX2_slotOf_10 ?_
  refine pv_bipush (pc := 11) (v := 54) dX2_slotOf_11 (by decide) ?_
  refine pv_lushr (pc := 13) dX2_slotOf_13 rfl ?_
  refine pv_l2i (pc := 14) dX2_slotOf_14 ?_
  refine pv_sipush (pc := 15) (v := 1023) dX2_slotOf_15 (by decide) ?_
  refine pv_iand (pc := 18) dX2_slotOf_18 ?_
  refine pv_topv2 (y := Int32.ofNat ((x_h (p, q) + 0) % 1024)) (x_hx_of p q) ?_
  refine pv_istore_5 (pc := 19) dX2_slotOf_19 (by decide) rfl ?_
  refine pv_iconst (pc := 21) (v := 0) dX2_slotOf_21 (by decide) ?_
  refine pv_istore_6 (pc := 22) dX2_slotOf_22 (by decide) rfl ?_
  obtain ⟨k0, f1, f2⟩ := h_free hX.2.2.2.2 (by rw [c_keys_len]; have := hX.2.1; omega) (x_h (p, q))
  exact l_slot hc hX f1 f2 k0 0 (.retAddr 0) (by omega) (fun j hj => absurd hj (Nat.not_lt_zero _))

set_option maxRecDepth 100000 in
set_option maxHeartbeats 4000000 in
theorem c_X2_add {G : pv_G} {d : Nat} {p q : Int64} {n : Int32} {a : Nat} {cl : CL} {t : pv_T} {I : pv_I} {L : pv_L} {Rf : pv_R} (hc : cr_ok t Rf a) (hX : XC a cl I L) (hcap : (c_add (p, q) n cl).length ≤ 319) (hd : 1 ≤ d) : pv_Mt G mX2_add d 0 0 [.ref a, .long p, .long q, .int n] t I L Rf (fun v t1 I1 L1 R1 => v = none ∧ t1 = t ∧ R1 = Rf ∧ XC a (c_add (p, q) n cl) I1 L1 ∧ cG a I L I1 L1 ∧ I1 a 5 = I a 5) := by
  refine pv_mt mgX2_add.2.2.2.2.2 [.ref a, .long p, .retAddr 0, .long q, .retAddr 0, .int n, .retAddr 0, .retAddr 0] rfl (Nat.le_of_ble_eq_true rfl) ?_
  refine pv_aload_0 (pc := 0) dX2_add_0 ?_
  refine pv_lload_1 (pc := 1) dX2_add_1 ?_
  refine pv_lload_3 (pc := 2) dX2_add_2 ?_
  refine pv_callVq (pc := 3) dX2_add_3 mgX2_slotOf lv_X2_66_2 hc.1 hc.2.1 (by omega) (c_X2_slotOf hc hX) rfl rfl (by decide) (fun v t I L Rf hq => ?_)
  obtain ⟨⟨r0, rfl, hend⟩, rfl, rfl, rfl, rfl⟩ := hq
  have hr := hend.1
  have er := i_nat (k := r0) (by omega)
  have e4 := hX.1
  have hx2 := hX.2.1
  have en : (I a 4).toNatClampNeg = cl.length := by rw [e4, i_nat (by omega)]
  rcases hend.2 with ⟨s0, s1, s2⟩ | ⟨i, hi, s1, hg⟩
  · have hcap2 : cl.length + 1 ≤ 319 := by rw [c_add_new _ _ _ s1, List.length_append, List.length_singleton] at hcap; exact hcap
    refine pv_istore_6 (pc := 6) dX2_add_6 (by decide) rfl ?_
    refine pv_aload_0 (pc := 8) dX2_add_8 ?_
    refine pv_getR (pc := 9) dX2_add_9 fg_X2_20_2 rfl hc.1 hc.2.1 hc.2.2.2.2.2.2.2.2.2 ?_
    refine pv_iload_6 (pc := 12) dX2_add_12 ?_
    refine pv_ialoadj (pc := 14) dX2_add_14 hc.2.2.2.2.2.1 rfl (i_in (k := r0) (by omega) (by decide)) ?_
    refine pv_iconst (pc := 15) (v := 1) dX2_add_15 (by decide) ?_
    refine pv_isub (pc := 16) dX2_add_16 ?_
    refine pv_topv2 (y := -1) (by rw [er, s0]; decide) ?_
    refine pv_istore_7 (pc := 17) dX2_add_17 (by decide) rfl ?_
    refine pv_iload_7 (pc := 19) dX2_add_19 ?_
    refine pv_if_lt (pc := 21) (tgt := 48) dX2_add_21 (by decide) (fun _ => ?_) (fun q => absurd q (by decide))
    refine pv_aload_0 (pc := 48) dX2_add_48 ?_
    refine pv_getI (pc := 49) dX2_add_49 fg_X2_29_2 rfl hc.1 hc.2.1 ?_
    refine pv_sipush (pc := 52) (v := 320) dX2_add_52 (by decide) ?_
    refine pv_icmp_ge (pc := 55) (tgt := 110) dX2_add_55 (by decide) (fun h55 => absurd h55 (by rw [e4]; have e0 := i_of (k := cl.length) (by omega); have q2 := x_lit2; simp only [i_lt]; omega)) (fun h55 => ?_)
    refine pv_aload_0 (pc := 58) dX2_add_58 ?_
    refine pv_getR (pc := 59) dX2_add_59 fg_X2_9_2 rfl hc.1 hc.2.1 hc.2.2.2.2.2.2.1 ?_
    refine pv_aload_0 (pc := 62) dX2_add_62 ?_
    refine pv_getI (pc := 63) dX2_add_63 fg_X2_29_2 rfl hc.1 hc.2.1 ?_
    refine pv_lload_1 (pc := 66) dX2_add_66 ?_
    refine pv_lastorej (pc := 67) dX2_add_67 (by have := hc.1; omega) hc.2.2.1 rfl (by rw [e4]; exact i_in (k := cl.length) (by omega) (by decide)) ?_
    rw [en]
    refine pv_aload_0 (pc := 68) dX2_add_68 ?_
    refine pv_getR (pc := 69) dX2_add_69 fg_X2_13_2 rfl hc.1 hc.2.1 hc.2.2.2.2.2.2.2.1 ?_
    refine pv_aload_0 (pc := 72) dX2_add_72 ?_
    refine pv_getI (pc := 73) dX2_add_73 fg_X2_29_2 rfl hc.1 hc.2.1 ?_
    refine pv_lload_3 (pc := 76) dX2_add_76 ?_
    refine pv_lastorej (pc := 77) dX2_add_77 (by have := hc.1; omega) hc.2.2.2.1 rfl (by rw [e4]; exact i_in (k := cl.length) (by omega) (by decide)) ?_
    rw [en]
    refine pv_aload_0 (pc := 78) dX2_add_78 ?_
    refine pv_getR (pc := 79) dX2_add_79 fg_X2_16_2 rfl hc.1 hc.2.1 hc.2.2.2.2.2.2.2.2.1 ?_
    refine pv_aload_0 (pc := 82) dX2_add_82 ?_
    refine pv_getI (pc := 83) dX2_add_83 fg_X2_29_2 rfl hc.1 hc.2.1 ?_
    refine pv_iload_5 (pc := 86) dX2_add_86 ?_
    refine pv_iastorej (pc := 88) dX2_add_88 (by have := hc.1; omega) hc.2.2.2.2.1 rfl (by rw [e4]; exact i_in (k := cl.length) (by omega) (by decide)) ?_
    rw [en]
    refine pv_aload_0 (pc := 89) dX2_add_89 ?_
    refine pv_dup (pc := 90) dX2_add_90 rfl ?_
    refine pv_getI (pc := 91) dX2_add_91 fg_X2_29_2 rfl hc.1 hc.2.1 ?_
    refine pv_iconst (pc := 94) (v := 1) dX2_add_94 (by decide) ?_
    refine pv_iadd (pc := 95) dX2_add_95 ?_
    refine pv_topv2 (y := Int32.ofNat (cl.length + 1)) (by rw [pv_u_o _ (by omega), e4, i_inc]) ?_
    refine pv_putI (pc := 96) dX2_add_96 fl_X2_29_2 (fun q => by cases q) ⟨rfl, rfl, rfl⟩ hc.1 hc.2.1 ?_
    refine pv_aload_0 (pc := 99) dX2_add_99 ?_
    refine pv_getR (pc := 100) dX2_add_100 fg_X2_20_2 rfl hc.1 hc.2.1 hc.2.2.2.2.2.2.2.2.2 ?_
    refine pv_iload_6 (pc := 103) dX2_add_103 ?_
    refine pv_aload_0 (pc := 105) dX2_add_105 ?_
    refine pv_getI (pc := 106) dX2_add_106 fg_X2_29_2 rfl hc.1 hc.2.1 ?_
    refine pv_topv2 (y := Int32.ofNat (cl.length + 1)) (by rw [pv_u_eq, if_pos rfl]) ?_
    refine pv_iastorej (pc := 109) dX2_add_109 (by have := hc.1; omega) hc.2.2.2.2.2.1 rfl (i_in (k := r0) (by omega) (by decide)) ?_
    refine pv_vret (pc := 110) dX2_add_110 rfl ?_
    rw [er, c_add_new _ _ _ s1]
    exact ⟨rfl, rfl, rfl, hX.new hcap2 s0 s1 s2, ((((cG.rf.uI _ _ _ (by omega)).uI _ _ _ (by omega)).uI _ _ _ (by omega)).uL _ _ _ (by omega)).uL _ _ _ (by omega), by rw [pv_u_o _ (by omega), pv_u_o _ (by omega), pv_u_o _ (by omega)]⟩
  · have hil : i < cl.length := by rw [← c_keys_len]; exact hi
    have ei := i_nat (k := i) (by omega)
    obtain ⟨e, he⟩ : ∃ e, cl[i]? = some e := ⟨_, List.getElem?_eq_getElem hil⟩
    have hee : e = ((p, q), e.2) := by
      rw [c_keys_at he] at hg
      exact Prod.ext (Option.some.inj hg) rfl
    rw [hee] at he
    refine pv_istore_6 (pc := 6) dX2_add_6 (by decide) rfl ?_
    refine pv_aload_0 (pc := 8) dX2_add_8 ?_
    refine pv_getR (pc := 9) dX2_add_9 fg_X2_20_2 rfl hc.1 hc.2.1 hc.2.2.2.2.2.2.2.2.2 ?_
    refine pv_iload_6 (pc := 12) dX2_add_12 ?_
    refine pv_ialoadj (pc := 14) dX2_add_14 hc.2.2.2.2.2.1 rfl (i_in (k := r0) (by omega) (by decide)) ?_
    refine pv_iconst (pc := 15) (v := 1) dX2_add_15 (by decide) ?_
    refine pv_isub (pc := 16) dX2_add_16 ?_
    refine pv_topv2 (y := Int32.ofNat i) (by rw [er, s1, ← i_inc]; grind) ?_
    refine pv_istore_7 (pc := 17) dX2_add_17 (by decide) rfl ?_
    refine pv_iload_7 (pc := 19) dX2_add_19 ?_
    refine pv_if_lt (pc := 21) (tgt := 48) dX2_add_21 (by decide) (fun h21 => absurd h21 (by have e0 := i_of (k := i) (by omega); have q := x_lits; have q2 := x_lit2; simp only [i_lt]; omega)) (fun h21 => ?_)
    refine pv_iload_7 (pc := 24) dX2_add_24 ?_
    refine pv_aload_0 (pc := 26) dX2_add_26 ?_
    refine pv_getI (pc := 27) dX2_add_27 fg_X2_29_2 rfl hc.1 hc.2.1 ?_
    refine pv_icmp_ge (pc := 30) (tgt := 48) dX2_add_30 (by decide) (fun h30 => absurd h30 (by rw [e4]; have e0 := i_of (k := cl.length) (by omega); have e1 := i_of (k := i) (by omega); simp only [i_lt]; omega)) (fun h30 => ?_)
    refine pv_aload_0 (pc := 33) dX2_add_33 ?_
    refine pv_getR (pc := 34) dX2_add_34 fg_X2_16_2 rfl hc.1 hc.2.1 hc.2.2.2.2.2.2.2.2.1 ?_
    refine pv_iload_7 (pc := 37) dX2_add_37 ?_
    refine pv_dup2 (pc := 39) dX2_add_39 rfl rfl ?_
    refine pv_ialoadj (pc := 40) dX2_add_40 hc.2.2.2.2.1 rfl (i_in (k := i) (by omega) (by decide)) ?_
    refine pv_iload_5 (pc := 41) dX2_add_41 ?_
    refine pv_iadd (pc := 43) dX2_add_43 ?_
    refine pv_iastorej (pc := 44) dX2_add_44 (by have := hc.1; omega) hc.2.2.2.2.1 rfl (i_in (k := i) (by omega) (by decide)) ?_
    refine pv_goto (pc := 45) (tgt := 110) dX2_add_45 (by decide) ?_
    refine pv_vret (pc := 110) dX2_add_110 rfl ?_
    rw [ei]
    exact ⟨rfl, rfl, rfl, hX.old he, cG.rf.uI _ _ _ (by omega), by rw [pv_u_o _ (by omega)]⟩

