/-! the class: the outermost of a crowd -/
theorem x_P_ok {x : Int64 × Int64} (h : x_P x) : n_ok x.1 x.2 := by
  obtain ⟨⟨h1, h2, h3, h4⟩, h5⟩ := h
  unfold x_rm s_room at h5
  simp only [Bool.and_eq_true, decide_eq_true_eq, Int64.le_iff_toInt_le, (show (1000000000000 : Int64).toInt = 1000000000000 from by decide), (show (-1000000000000 : Int64).toInt = -1000000000000 from by decide)] at h5
  exact ⟨h1, by omega, by omega, by omega, fun z => by rw [h3 z]; decide⟩
def dg_ok (dir : Int32) (g : Bool) : Prop := (dir = -1 ∧ g = true) ∨ (dir = 1 ∧ g = false)
theorem x_cmp_bt {dir : Int32} {g : Bool} (h : dg_ok dir g) (x y : Int64 × Int64) : 0 < dir * x_cmp x.1 x.2 y.1 y.2 ↔ x_bt g x y = true := by
  unfold x_cmp x_bt s_ltp
  have key : s_lt x.1 x.2 y.1 y.2 = true → s_lt y.1 y.2 x.1 x.2 = false := by
    intro q
    unfold s_lt at *
    rw [decide_eq_true_eq] at q
    exact decide_eq_false (by omega)
  rcases h with ⟨rfl, rfl⟩ | ⟨rfl, rfl⟩
  · cases e : s_lt x.1 x.2 y.1 y.2 <;> cases f : s_lt y.1 y.2 x.1 x.2 <;> simp <;> decide
  · cases e : s_lt x.1 x.2 y.1 y.2 <;> cases f : s_lt y.1 y.2 x.1 x.2
    · simp
    · simp
    · simp
    · rw [key e] at f; cases f
theorem c_keys_take {cl : CL} {i : Nat} {e : (Int64 × Int64) × Int32} (h : cl[i]? = some e) (x : Int64 × Int64) : x ∈ c_keys (cl.take (i + 1)) ↔ x ∈ c_keys (cl.take i) ∨ x = e.1 := by
  rw [take_s h, c_keys, List.map_append, List.mem_append]
  simp [c_keys]

set_option maxRecDepth 100000 in
set_option maxHeartbeats 4000000 in
theorem l_outm {G : pv_G} {d : Nat} {dir : Int32} {g : Bool} {a : Nat} {cl : CL} {t : pv_T} {I : pv_I} {L : pv_L} {Rf : pv_R} (hc : cr_ok t Rf a) (hX : XC a cl I L) (hg : dg_ok dir g) (hP : ∀ x ∈ c_keys cl, x_P x) (hd : 3 ≤ d) : ∀ (n i f : Nat) (ef : (Int64 × Int64) × Int32), i + n = cl.length → f < i → cl[f]? = some ef → x_best g (fun x => x ∈ c_keys (cl.take i)) ef.1 → pv_V G mX2_outermost d 0 0 (fun v t1 I1 L1 R1 => (∃ (r : Nat) (e : (Int64 × Int64) × Int32), v = some (.int (Int32.ofNat r)) ∧ cl[r]? = some e ∧ x_best g (fun x => x ∈ c_keys cl) e.1) ∧ t1 = t ∧ I1 = I ∧ L1 = L ∧ R1 = Rf) 0 0 4 [.ref a, .int dir, .int (Int32.ofNat f), .int (Int32.ofNat i)] [] t I L Rf := by
  have x4 := hX.1
  have hcl := hX.2.1
  have hgd : ∀ x ∈ c_keys cl, gd (2 ^ 42) x := fun x hx => (hP x hx).1
  intro n
  induction n with
  | zero =>
    intro i f ef hi hfi hef hb
    skip
    refine pv_iload_3 (pc := 4) dX2_outermost_4 ?_
    refine pv_aload_0 (pc := 5) dX2_outermost_5 ?_
    refine pv_getI (pc := 6) dX2_outermost_6 fg_X2_29_2 rfl hc.1 hc.2.1 ?_
    refine pv_icmp_ge (pc := 9) (tgt := 59) dX2_outermost_9 (by decide) (fun h9 => ?_) (fun h9 => absurd h9 (by rw [x4]; have e0 := i_of (k := cl.length) (by omega); have e1 := i_of (k := i) (by omega); have q2 := x_lit2; simp only [i_lt]; omega))
    refine pv_iload_2 (pc := 59) dX2_outermost_59 ?_
    refine pv_iret (pc := 60) dX2_outermost_60 rfl rfl ?_
    rw [show i = cl.length by omega, List.take_length] at hb
    exact ⟨⟨f, ef, rfl, hef, hb⟩, rfl, rfl, rfl, rfl⟩
  | succ n ih =>
    intro i f ef hi hfi hef hb
    skip
    refine pv_iload_3 (pc := 4) dX2_outermost_4 ?_
    refine pv_aload_0 (pc := 5) dX2_outermost_5 ?_
    refine pv_getI (pc := 6) dX2_outermost_6 fg_X2_29_2 rfl hc.1 hc.2.1 ?_
    refine pv_icmp_ge (pc := 9) (tgt := 59) dX2_outermost_9 (by decide) (fun h9 => absurd h9 (by rw [x4]; have e0 := i_of (k := cl.length) (by omega); have e1 := i_of (k := i) (by omega); have q2 := x_lit2; simp only [i_lt]; omega)) (fun h9 => ?_)
    refine pv_iload_3 (pc := 12) dX2_outermost_12 ?_
    refine pv_sipush (pc := 13) (v := 320) dX2_outermost_13 (by decide) ?_
    refine pv_icmp_ge (pc := 16) (tgt := 59) dX2_outermost_16 (by decide) (fun h16 => absurd h16 (by have e0 := i_of (k := i) (by omega); have q := x_lits; have q2 := x_lit2; simp only [i_lt]; omega)) (fun h16 => ?_)
    obtain ⟨e, he⟩ : ∃ e, cl[i]? = some e := ⟨_, List.getElem?_eq_getElem (by omega)⟩
    have ei := i_nat (k := i) (by omega)
    have ef0 := i_nat (k := f) (by omega)
    obtain ⟨y1, y2, y3⟩ := hX.2.2.2.1 i e he
    obtain ⟨z1, z2, z3⟩ := hX.2.2.2.1 f ef hef
    have hsub : ∀ y, y ∈ c_keys (cl.take i) → y ∈ c_keys cl := fun y hy => by rw [c_keys, List.map_take] at hy; exact List.mem_of_mem_take hy
    have hsub2 : ∀ {j : Nat} (e : (Int64 × Int64) × Int32), cl[j]? = some e → e.1 ∈ c_keys cl := fun e h => List.mem_map.mpr ⟨e, List.mem_of_getElem? h, rfl⟩
    have ne := x_P_ok (hP _ (hsub2 _ he))
    have nf := x_P_ok (hP _ (hsub2 _ hef))
    refine pv_iload_1 (pc := 19) dX2_outermost_19 ?_
    refine pv_aload_0 (pc := 20) dX2_outermost_20 ?_
    refine pv_getR (pc := 21) dX2_outermost_21 fg_X2_9_2 rfl hc.1 hc.2.1 hc.2.2.2.2.2.2.1 ?_
    refine pv_iload_3 (pc := 24) dX2_outermost_24 ?_
    refine pv_laloadj (pc := 25) dX2_outermost_25 (by have := hc.1; omega) hc.2.2.1 rfl (i_in (k := i) (by omega) (by decide)) ?_
    refine pv_aload_0 (pc := 26) dX2_outermost_26 ?_
    refine pv_getR (pc := 27) dX2_outermost_27 fg_X2_13_2 rfl hc.1 hc.2.1 hc.2.2.2.2.2.2.2.1 ?_
    refine pv_iload_3 (pc := 30) dX2_outermost_30 ?_
    refine pv_laloadj (pc := 31) dX2_outermost_31 (by have := hc.1; omega) hc.2.2.2.1 rfl (i_in (k := i) (by omega) (by decide)) ?_
    refine pv_aload_0 (pc := 32) dX2_outermost_32 ?_
    refine pv_getR (pc := 33) dX2_outermost_33 fg_X2_9_2 rfl hc.1 hc.2.1 hc.2.2.2.2.2.2.1 ?_
    refine pv_iload_2 (pc := 36) dX2_outermost_36 ?_
    refine pv_laloadj (pc := 37) dX2_outermost_37 (by have := hc.1; omega) hc.2.2.1 rfl (i_in (k := f) (by omega) (by decide)) ?_
    refine pv_aload_0 (pc := 38) dX2_outermost_38 ?_
    refine pv_getR (pc := 39) dX2_outermost_39 fg_X2_13_2 rfl hc.1 hc.2.1 hc.2.2.2.2.2.2.2.1 ?_
    refine pv_iload_2 (pc := 42) dX2_outermost_42 ?_
    refine pv_laloadj (pc := 43) dX2_outermost_43 (by have := hc.1; omega) hc.2.2.2.1 rfl (i_in (k := f) (by omega) (by decide)) ?_
    refine pv_callSN1 (pc := 44) dX2_outermost_44 mgX11_compare lsn_X2_74 (by omega) (c_X11_compare (by rw [ei, y1, y2]; exact ne) (by rw [ef0, z1, z2]; exact nf) (by omega)) rfl rfl (Nat.le_of_ble_eq_true rfl) ?_
    refine pv_imul (pc := 47) dX2_outermost_47 ?_
    refine pv_if_le (pc := 48) (tgt := 53) dX2_outermost_48 (by decide) (fun h48 => ?_) (fun h48 => ?_)
    · refine pv_iinc_3 (pc := 53) (v := _ + 1) dX2_outermost_53 rfl (by decide) rfl ?_
      refine pv_goto (pc := 56) (tgt := 4) dX2_outermost_56 (by decide) ?_
      rw [i_inc]
      have hbt := x_cmp_bt hg e.1 ef.1
      have f1 := h48
      rw [ei, ef0, y1, y2, z1, z2] at f1
      first
        | (refine ih (i + 1) f ef (by omega) (by omega) hef ?_
           have hno : ¬ x_bt g e.1 ef.1 = true := fun q => f1 (hbt.mpr q)
           refine ⟨(c_keys_take he _).mpr (Or.inl hb.1), fun y hy => ?_⟩
           rcases (c_keys_take he _).mp hy with q | q
           · exact hb.2 y q
           · rw [q]; exact hno)
        | (refine ih (i + 1) i e (by omega) (by omega) he ?_
           have hyes : x_bt g e.1 ef.1 = true := hbt.mp (by first | exact f1 | exact Classical.not_not.mp f1)
           refine ⟨(c_keys_take he _).mpr (Or.inr rfl), fun y hy q1 => ?_⟩
           rcases (c_keys_take he _).mp hy with q | q
           · exact hb.2 y q (x_bt_tr (hgd y (hsub _ q)) (hgd _ (hsub2 _ he)) (hgd _ (hsub2 _ hef)) q1 hyes)
           · rw [q] at q1; exact x_bt_ir g _ q1)
    · refine pv_iload_3 (pc := 51) dX2_outermost_51 ?_
      refine pv_istore_2 (pc := 52) dX2_outermost_52 (by decide) rfl ?_
      refine pv_iinc_3 (pc := 53) (v := _ + 1) dX2_outermost_53 rfl (by decide) rfl ?_
      refine pv_goto (pc := 56) (tgt := 4) dX2_outermost_56 (by decide) ?_
      rw [i_inc]
      have hbt := x_cmp_bt hg e.1 ef.1
      have f1 := h48
      rw [ei, ef0, y1, y2, z1, z2] at f1
      first
        | (refine ih (i + 1) f ef (by omega) (by omega) hef ?_
           have hno : ¬ x_bt g e.1 ef.1 = true := fun q => f1 (hbt.mpr q)
           refine ⟨(c_keys_take he _).mpr (Or.inl hb.1), fun y hy => ?_⟩
           rcases (c_keys_take he _).mp hy with q | q
           · exact hb.2 y q
           · rw [q]; exact hno)
        | (refine ih (i + 1) i e (by omega) (by omega) he ?_
           have hyes : x_bt g e.1 ef.1 = true := hbt.mp (by first | exact f1 | exact Classical.not_not.mp f1)
           refine ⟨(c_keys_take he _).mpr (Or.inr rfl), fun y hy q1 => ?_⟩
           rcases (c_keys_take he _).mp hy with q | q
           · exact hb.2 y q (x_bt_tr (hgd y (hsub _ q)) (hgd _ (hsub2 _ he)) (hgd _ (hsub2 _ hef)) q1 hyes)
           · rw [q] at q1; exact x_bt_ir g _ q1)

set_option maxRecDepth 100000 in
set_option maxHeartbeats 4000000 in
theorem c_X2_outermost {G : pv_G} {d : Nat} {dir : Int32} {g : Bool} {a : Nat} {cl : CL} {t : pv_T} {I : pv_I} {L : pv_L} {Rf : pv_R} (hc : cr_ok t Rf a) (hX : XC a cl I L) (hg : dg_ok dir g) (hP : ∀ x ∈ c_keys cl, x_P x) (hne : 0 < cl.length) (hd : 3 ≤ d) : pv_Mt G mX2_outermost d 0 0 [.ref a, .int dir] t I L Rf (fun v t1 I1 L1 R1 => (∃ (r : Nat) (e : (Int64 × Int64) × Int32), v = some (.int (Int32.ofNat r)) ∧ cl[r]? = some e ∧ x_best g (fun x => x ∈ c_keys cl) e.1) ∧ t1 = t ∧ I1 = I ∧ L1 = L ∧ R1 = Rf) := by
  refine pv_mt mgX2_outermost.2.2.2.2.2 [.ref a, .int dir, .retAddr 0, .retAddr 0] rfl (Nat.le_of_ble_eq_true rfl) ?_
  refine pv_iconst (pc := 0) (v := 0) dX2_outermost_0 (by decide) ?_
  refine pv_istore_2 (pc := 1) dX2_outermost_1 (by decide) rfl ?_
  refine pv_iconst (pc := 2) (v := 1) dX2_outermost_2 (by decide) ?_
  refine pv_istore_3 (pc := 3) dX2_outermost_3 (by decide) rfl ?_
  obtain ⟨e, he⟩ : ∃ e, cl[0]? = some e := ⟨_, List.getElem?_eq_getElem hne⟩
  have hk : ∀ x, x ∈ c_keys (cl.take 1) ↔ x = e.1 := fun x => by rw [c_keys_take he]; simp [c_keys]
  exact l_outm hc hX hg hP hd (cl.length - 1) 1 0 e (by omega) (by omega) he ⟨(hk _).mpr rfl, fun y hy => by rw [(hk y).mp hy]; exact x_bt_ir g _⟩

/-! the class: what was forgotten -/
theorem c_asInt_at {G : pv_G} {d k j : Nat} {v : Int32} {t : pv_T} {I : pv_I} {L : pv_L} {Rf : pv_R} (hT : sh_ok t) (hR : rf_ok Rf) (hs8 : k < 8) (hj : (j : Int) < (I (45 + 2 * k) 2).toInt) (h160 : (I (45 + 2 * k) 2).toInt ≤ 160) (hv : (L (46 + 2 * k) j).toInt32 = v) : pv_Mt G mX8_asInt d 0 0 [.ref (45 + 2 * k), .int (Int32.ofNat j)] t I L Rf (pv_is (some (.int v)) t I L Rf) := by
  have h := c_X8_asInt (G := G) (d := d) (i := Int32.ofNat j) (k := k) (I := I) (L := L) hT hR hs8
  have e : x_has I k (Int32.ofNat j) = true := by
    have e0 := i_of (k := j) (by omega)
    have q0 : (0 : Int32).toInt = 0 := by decide
    have q1 : (160 : Int32).toInt = 160 := by decide
    unfold x_has
    simp only [Bool.and_eq_true, decide_eq_true_eq, i_le, i_lt, e0, q0, q1]
    omega
  rw [if_pos e, i_nat (by omega), hv] at h
  exact h
theorem c_st_le {s : Int32} {ok : Int64 × Int64 → Bool} {cl to : CL} {a b : Nat} (h1 : cl.length ≤ a) (h2 : to.length ≤ b) (h : a + b ≤ 319) (j : Nat) : (c_step s ok (cl.take j) to).length ≤ 319 := by
  have := c_step_len s ok (cl.take j) to
  have h3 : (cl.take j).length ≤ cl.length := by rw [List.length_take]; omega
  omega
theorem w_thr_v (C : Nat → Int64) (m i : Nat) : w_thr C (m + 1) i = w_thr C m (i + 1) + (if (C i).toInt32 = 3 then 1 else 0) := rfl
def xM : Int64 := 1000000000000

set_option maxRecDepth 100000 in
set_option maxHeartbeats 4000000 in
theorem l_forget {G : pv_G} {d N : Nat} {s : Int32} {C : Nat → Int64} {fin : Option CL} {t : pv_T} {Rf : pv_R} {J0 : pv_I} {L0 : pv_L} (hT : sh_ok t) (hR : rf_ok Rf) (hs8 : s.toNatClampNeg < 8) (hN : N ≤ 40) (hz : (N : Int) ≤ (J0 (45 + 2 * s.toNatClampNeg) 2).toInt ∧ (J0 (45 + 2 * s.toNatClampNeg) 2).toInt ≤ 160) (hcell : ∀ j, j < 160 → L0 (46 + 2 * s.toNatClampNeg) j = C j) (hd : 8 ≤ d) : ∀ (m i a g : Nat) (cl : CL) (I : pv_I) (L : pv_L) (l7 l8 : Value), i + m = N → ag_ok a g → XC a cl I L → cl.length * 2 ^ w_thr C m i ≤ 128 → c_fgt C (x_ok xM) m i cl = fin → kC J0 L0 I L → pv_V G mX11_forget d 0 0 (fun v t1 I1 L1 R1 => ((v = some .null ∧ fin = none) ∨ ∃ z cl1, v = some (.ref z) ∧ (z = 35 ∨ z = 40) ∧ fin = some cl1 ∧ XC z cl1 I1 L1) ∧ t1 = t ∧ R1 = Rf ∧ kC J0 L0 I1 L1) 0 0 30 [.ref 16, .int s, .int (Int32.ofNat N), .ref (45 + 2 * s.toNatClampNeg), .ref a, .ref g, .int (Int32.ofNat i), l7, l8] [] t I L Rf := by
  intro m
  induction m with
  | zero =>
    intro i a g cl I L l7 l8 hi hag0 hX hlen hr hk
    have hc : cr_ok t Rf a := ag_cr hT hR (by unfold ag_ok at hag0; omega)
    have hg : cr_ok t Rf g := ag_cr hT hR (by unfold ag_ok at hag0; omega)
    have hag : g + 5 ≤ a ∨ a + 5 ≤ g := by unfold ag_ok at hag0; omega
    have hka : a = 35 ∨ a = 40 := by unfold ag_ok at hag0; omega
    refine pv_aload_3 (pc := 30) dX11_forget_30 ?_
    refine pv_ifnull (pc := 31) dX11_forget_31 ?_
    refine pv_iload_6 (pc := 34) dX11_forget_34 ?_
    refine pv_iload_2 (pc := 36) dX11_forget_36 ?_
    refine pv_icmp_ge (pc := 37) (tgt := 120) dX11_forget_37 (by decide) (fun h37 => ?_) (fun h37 => absurd h37 (by have e0 := i_of (k := i) (by omega); have e1 := i_of (k := N) (by omega); simp only [i_lt]; omega))
    refine pv_aload_4 (pc := 120) dX11_forget_120 ?_
    refine pv_aret (pc := 122) dX11_forget_122 (Or.inr ⟨_, rfl⟩) rfl (Or.inl ⟨_, rfl⟩) ?_
    rw [c_fgt] at hr
    exact ⟨Or.inr ⟨a, cl, rfl, hka, hr.symm, hX⟩, rfl, rfl, hk⟩
  | succ m ih =>
    intro i a g cl I L l7 l8 hi hag0 hX hlen hr hk
    have hc : cr_ok t Rf a := ag_cr hT hR (by unfold ag_ok at hag0; omega)
    have hg : cr_ok t Rf g := ag_cr hT hR (by unfold ag_ok at hag0; omega)
    have hag : g + 5 ≤ a ∨ a + 5 ≤ g := by unfold ag_ok at hag0; omega
    have hka : a = 35 ∨ a = 40 := by unfold ag_ok at hag0; omega
    have hle : cl.length ≤ 128 := by
      have := Nat.pow_le_pow_right (n := 2) (by decide) (Nat.zero_le (w_thr C (m + 1) i))
      have h1 : cl.length * 1 ≤ cl.length * 2 ^ w_thr C (m + 1) i := Nat.mul_le_mul_left _ this
      omega
    by_cases h3 : (C i).toInt32 = 3
    · skip
      refine pv_aload_3 (pc := 30) dX11_forget_30 ?_
      refine pv_ifnull (pc := 31) dX11_forget_31 ?_
      refine pv_iload_6 (pc := 34) dX11_forget_34 ?_
      refine pv_iload_2 (pc := 36) dX11_forget_36 ?_
      refine pv_icmp_ge (pc := 37) (tgt := 120) dX11_forget_37 (by decide) (fun h37 => absurd h37 (by have e0 := i_of (k := i) (by omega); have e1 := i_of (k := N) (by omega); simp only [i_lt]; omega)) (fun h37 => ?_)
      refine pv_aload_3 (pc := 40) dX11_forget_40 ?_
      refine pv_iload_6 (pc := 41) dX11_forget_41 ?_
      refine pv_callV1 (pc := 43) dX11_forget_43 mgX8_asInt lv_X11_398_8 (by omega) (sx_sh hT hs8) (by omega) (c_asInt_at (v := 3) hT hR hs8 (by rw [hk.1 _ 2 (by omega) (by omega)]; omega) (by rw [hk.1 _ 2 (by omega) (by omega)]; omega) (by rw [hk.2 _ _ (by omega), hcell _ (by omega)]; exact h3)) rfl rfl (by decide) ?_
      refine pv_istore_7 (pc := 46) dX11_forget_46 (by decide) rfl ?_
      refine pv_aload_5 (pc := 48) dX11_forget_48 ?_
      refine pv_callVq (pc := 50) dX11_forget_50 mgX2_clear lv_X11_418_2 hg.1 hg.2.1 (by omega) (c_X2_clear hg (by omega)) rfl rfl (by decide) (fun v t I L Rf hq => ?_)
      obtain ⟨rfl, rfl, rfl, rfl, hy, gy, fy⟩ := hq
      have hX0 := hX.fr gy hag
      refine pv_aload_5 (pc := 53) dX11_forget_53 ?_
      refine pv_aload_4 (pc := 55) dX11_forget_55 ?_
      refine pv_iload_7 (pc := 57) dX11_forget_57 ?_
      refine pv_iconst (pc := 59) (v := 3) dX11_forget_59 (by decide) ?_
      refine pv_icmp_ne (pc := 60) (tgt := 67) dX11_forget_60 (by decide) (fun q => absurd q (by decide)) (fun _ => ?_)
      refine pv_iconst (pc := 63) (v := 0) dX11_forget_63 (by decide) ?_
      refine pv_goto (pc := 64) (tgt := 69) dX11_forget_64 (by decide) ?_
      refine pv_ldc2 (pc := 69) dX11_forget_69 k_X11_348 ?_
      refine pv_callVq (pc := 72) dX11_forget_72 mgX2_addStepped lv_X11_421_2 hg.1 hg.2.1 (by omega) (c_X2_addStepped (m := xM) (f := false) (cl := cl) hg hc hag hX0 hy fy (fun j => c_st_le (to := []) (b := 0) hle (Nat.le_refl 0) (by omega) j) (by omega)) rfl rfl (by decide) (fun v t I L Rf hq => ?_)
      obtain ⟨rfl, rfl, rfl, hy0, gy0, fy0⟩ := hq
      have hX1 := hX0.fr gy0 hag
      have l0 := c_step_len 0 (x_ok xM) cl []
      refine pv_iload_7 (pc := 75) dX11_forget_75 ?_
      refine pv_iconst (pc := 77) (v := 3) dX11_forget_77 (by decide) ?_
      refine pv_icmp_ne (pc := 78) (tgt := 92) dX11_forget_78 (by decide) (fun q => absurd q (by decide)) (fun _ => ?_)
      refine pv_aload_5 (pc := 81) dX11_forget_81 ?_
      refine pv_aload_4 (pc := 83) dX11_forget_83 ?_
      refine pv_iconst (pc := 85) (v := 1) dX11_forget_85 (by decide) ?_
      refine pv_ldc2 (pc := 86) dX11_forget_86 k_X11_348 ?_
      refine pv_callVq (pc := 89) dX11_forget_89 mgX2_addStepped lv_X11_421_2 hg.1 hg.2.1 (by omega) (c_X2_addStepped (m := xM) (cl := cl) hg hc hag hX1 hy0 fy0 (fun j => c_st_le hle (show (c_step 0 (x_ok xM) cl []).length ≤ 128 by rw [List.length_nil] at l0; omega) (by omega) j) (by omega)) rfl rfl (by decide) (fun v t I L Rf hq => ?_)
      obtain ⟨rfl, rfl, rfl, hy1, gy1, fy1⟩ := hq
      refine pv_aload_5 (pc := 92) dX11_forget_92 ?_
      refine pv_getI (pc := 94) dX11_forget_94 fg_X11_425_2 rfl hg.1 hg.2.1 ?_
      refine pv_if_eq (pc := 97) (tgt := 102) dX11_forget_97 (by decide) (fun h97 => ?_) (fun h97 => ?_)
      · refine pv_aload_4 (pc := 102) dX11_forget_102 ?_
        refine pv_astore_8 (pc := 104) dX11_forget_104 (by decide) rfl ?_
        refine pv_aload_5 (pc := 106) dX11_forget_106 ?_
        refine pv_astore_4 (pc := 108) dX11_forget_108 (by decide) rfl ?_
        refine pv_aload_8 (pc := 110) dX11_forget_110 ?_
        refine pv_astore_5 (pc := 112) dX11_forget_112 (by decide) rfl ?_
        refine pv_iinc_6 (pc := 114) (v := _ + 1) dX11_forget_114 rfl (by decide) rfl ?_
        refine pv_goto (pc := 117) (tgt := 30) dX11_forget_117 (by decide) ?_
        rw [i_inc]
        have hkg : g = 35 ∨ g = 40 := by unfold ag_ok at hag0; omega
        have f1 : I g 5 = 0 := (by first | exact h97 | exact Classical.not_not.mp h97)
        rw [fy1] at f1
        have hfl : c_fl C (x_ok xM) i cl = false := by unfold c_fl; rw [if_pos h3]; exact (pv_b_0 _).mp f1
        rw [c_fgt, if_neg (by rw [hfl]; decide)] at hr
        have hfs : c_fs C (x_ok xM) i cl = c_step 1 (x_ok xM) cl (c_step 0 (x_ok xM) cl []) := by unfold c_fs; rw [if_pos h3]
        rw [hfs] at hr
        refine ih (i + 1) g a _ _ _ _ _ (by omega) (by rcases hag0 with q | q; exact Or.inr ⟨q.2, q.1⟩; exact Or.inl ⟨q.2, q.1⟩) hy1 ?_ hr (hk.tr ((gy.tr (gy0.tr gy1)).kC hkg))
        rw [w_thr_v, if_pos h3, Nat.pow_succ] at hlen
        have l0 := c_step_len 0 (x_ok xM) cl []
        have l1 := c_step_len 1 (x_ok xM) cl (c_step 0 (x_ok xM) cl [])
        rw [List.length_nil] at l0
        have l2 : (c_step 1 (x_ok xM) cl (c_step 0 (x_ok xM) cl [])).length * 2 ^ w_thr C m (i + 1) ≤ (2 * cl.length) * 2 ^ w_thr C m (i + 1) := Nat.mul_le_mul_right _ (by omega)
        have l3 : (2 * cl.length) * 2 ^ w_thr C m (i + 1) = cl.length * (2 ^ w_thr C m (i + 1) * 2) := by rw [Nat.mul_comm 2 cl.length, Nat.mul_assoc, Nat.mul_comm 2]
        omega
      · refine pv_null (pc := 100) dX11_forget_100 ?_
        refine pv_aret (pc := 101) dX11_forget_101 (Or.inl rfl) rfl (Or.inl ⟨_, rfl⟩) ?_
        have hkg : g = 35 ∨ g = 40 := by unfold ag_ok at hag0; omega
        have f1 : ¬ I g 5 = 0 := h97
        rw [fy1] at f1
        have hfl : c_fl C (x_ok xM) i cl = true := by unfold c_fl; rw [if_pos h3]; exact (pv_b_n0 _).mp f1
        rw [c_fgt, if_pos hfl] at hr
        exact ⟨Or.inl ⟨rfl, hr.symm⟩, rfl, rfl, hk.tr ((gy.tr (gy0.tr gy1)).kC hkg)⟩
    · skip
      refine pv_aload_3 (pc := 30) dX11_forget_30 ?_
      refine pv_ifnull (pc := 31) dX11_forget_31 ?_
      refine pv_iload_6 (pc := 34) dX11_forget_34 ?_
      refine pv_iload_2 (pc := 36) dX11_forget_36 ?_
      refine pv_icmp_ge (pc := 37) (tgt := 120) dX11_forget_37 (by decide) (fun h37 => absurd h37 (by have e0 := i_of (k := i) (by omega); have e1 := i_of (k := N) (by omega); simp only [i_lt]; omega)) (fun h37 => ?_)
      refine pv_aload_3 (pc := 40) dX11_forget_40 ?_
      refine pv_iload_6 (pc := 41) dX11_forget_41 ?_
      refine pv_callV1 (pc := 43) dX11_forget_43 mgX8_asInt lv_X11_398_8 (by omega) (sx_sh hT hs8) (by omega) (c_asInt_at (v := (C i).toInt32) hT hR hs8 (by rw [hk.1 _ 2 (by omega) (by omega)]; omega) (by rw [hk.1 _ 2 (by omega) (by omega)]; omega) (by rw [hk.2 _ _ (by omega), hcell _ (by omega)])) rfl rfl (by decide) ?_
      refine pv_istore_7 (pc := 46) dX11_forget_46 (by decide) rfl ?_
      refine pv_aload_5 (pc := 48) dX11_forget_48 ?_
      refine pv_callVq (pc := 50) dX11_forget_50 mgX2_clear lv_X11_418_2 hg.1 hg.2.1 (by omega) (c_X2_clear hg (by omega)) rfl rfl (by decide) (fun v t I L Rf hq => ?_)
      obtain ⟨rfl, rfl, rfl, rfl, hy, gy, fy⟩ := hq
      have hX0 := hX.fr gy hag
      refine pv_aload_5 (pc := 53) dX11_forget_53 ?_
      refine pv_aload_4 (pc := 55) dX11_forget_55 ?_
      refine pv_iload_7 (pc := 57) dX11_forget_57 ?_
      refine pv_iconst (pc := 59) (v := 3) dX11_forget_59 (by decide) ?_
      refine pv_icmp_ne (pc := 60) (tgt := 67) dX11_forget_60 (by decide) (fun h60 => ?_) (fun h60 => absurd h60 h3)
      refine pv_iload_7 (pc := 67) dX11_forget_67 ?_
      refine pv_ldc2 (pc := 69) dX11_forget_69 k_X11_348 ?_
      refine pv_callVq (pc := 72) dX11_forget_72 mgX2_addStepped lv_X11_421_2 hg.1 hg.2.1 (by omega) (c_X2_addStepped (m := xM) (f := false) (cl := cl) hg hc hag hX0 hy fy (fun j => c_st_le (to := []) (b := 0) hle (Nat.le_refl 0) (by omega) j) (by omega)) rfl rfl (by decide) (fun v t I L Rf hq => ?_)
      obtain ⟨rfl, rfl, rfl, hy0, gy0, fy0⟩ := hq
      refine pv_iload_7 (pc := 75) dX11_forget_75 ?_
      refine pv_iconst (pc := 77) (v := 3) dX11_forget_77 (by decide) ?_
      refine pv_icmp_ne (pc := 78) (tgt := 92) dX11_forget_78 (by decide) (fun h78 => ?_) (fun h78 => absurd h78 h3)
      refine pv_aload_5 (pc := 92) dX11_forget_92 ?_
      refine pv_getI (pc := 94) dX11_forget_94 fg_X11_425_2 rfl hg.1 hg.2.1 ?_
      refine pv_if_eq (pc := 97) (tgt := 102) dX11_forget_97 (by decide) (fun h97 => ?_) (fun h97 => ?_)
      · refine pv_aload_4 (pc := 102) dX11_forget_102 ?_
        refine pv_astore_8 (pc := 104) dX11_forget_104 (by decide) rfl ?_
        refine pv_aload_5 (pc := 106) dX11_forget_106 ?_
        refine pv_astore_4 (pc := 108) dX11_forget_108 (by decide) rfl ?_
        refine pv_aload_8 (pc := 110) dX11_forget_110 ?_
        refine pv_astore_5 (pc := 112) dX11_forget_112 (by decide) rfl ?_
        refine pv_iinc_6 (pc := 114) (v := _ + 1) dX11_forget_114 rfl (by decide) rfl ?_
        refine pv_goto (pc := 117) (tgt := 30) dX11_forget_117 (by decide) ?_
        rw [i_inc]
        have hkg : g = 35 ∨ g = 40 := by unfold ag_ok at hag0; omega
        have f1 : I g 5 = 0 := (by first | exact h97 | exact Classical.not_not.mp h97)
        rw [fy0] at f1
        have hfl : c_fl C (x_ok xM) i cl = false := by unfold c_fl; rw [if_neg h3]; exact (pv_b_0 _).mp f1
        rw [c_fgt, if_neg (by rw [hfl]; decide)] at hr
        have hfs : c_fs C (x_ok xM) i cl = c_step (C i).toInt32 (x_ok xM) cl [] := by unfold c_fs; rw [if_neg h3]
        rw [hfs] at hr
        refine ih (i + 1) g a _ _ _ _ _ (by omega) (by rcases hag0 with q | q; exact Or.inr ⟨q.2, q.1⟩; exact Or.inl ⟨q.2, q.1⟩) hy0 ?_ hr (hk.tr ((gy.tr gy0).kC hkg))
        rw [w_thr_v, if_neg h3, Nat.add_zero] at hlen
        have l0 := c_step_len (C i).toInt32 (x_ok xM) cl []
        rw [List.length_nil, Nat.zero_add] at l0
        exact Nat.le_trans (Nat.mul_le_mul_right _ l0) hlen
      · refine pv_null (pc := 100) dX11_forget_100 ?_
        refine pv_aret (pc := 101) dX11_forget_101 (Or.inl rfl) rfl (Or.inl ⟨_, rfl⟩) ?_
        have hkg : g = 35 ∨ g = 40 := by unfold ag_ok at hag0; omega
        have f1 : ¬ I g 5 = 0 := h97
        rw [fy0] at f1
        have hfl : c_fl C (x_ok xM) i cl = true := by unfold c_fl; rw [if_neg h3]; exact (pv_b_n0 _).mp f1
        rw [c_fgt, if_pos hfl] at hr
        exact ⟨Or.inl ⟨rfl, hr.symm⟩, rfl, rfl, hk.tr ((gy.tr gy0).kC hkg)⟩

set_option maxRecDepth 100000 in
set_option maxHeartbeats 4000000 in
theorem c_X11_forget {G : pv_G} {d : Nat} {N : Nat} {s n : Int32} {C : Nat → Int64} {p q : Int64} {t : pv_T} {I : pv_I} {L : pv_L} {Rf : pv_R} (hT : sh_ok t) (hR : rf_ok Rf) (hin : vp_in s 8) (hs8 : s.toNatClampNeg < 8) (en : n = Int32.ofNat N) (hN : N ≤ 40) (hz : (N : Int) ≤ (I (45 + 2 * s.toNatClampNeg) 2).toInt ∧ (I (45 + 2 * s.toNatClampNeg) 2).toInt ≤ 160) (hcell : ∀ j, j < 160 → L (46 + 2 * s.toNatClampNeg) j = C j) (hp : L 21 1 = p) (hq2 : L 21 2 = q) (hth : w_thr C N 0 ≤ 7) (hd : 10 ≤ d) : pv_Mt G mX11_forget d 0 0 [.ref 16, .int s, .int n] t I L Rf (fun v t1 I1 L1 R1 => ((v = some .null ∧ c_fgt C (x_ok xM) N 0 [((p, q), 1)] = none) ∨ ∃ z cl1, v = some (.ref z) ∧ (z = 35 ∨ z = 40) ∧ c_fgt C (x_ok xM) N 0 [((p, q), 1)] = some cl1 ∧ XC z cl1 I1 L1) ∧ t1 = t ∧ R1 = Rf ∧ kC I L I1 L1) := by
  refine pv_mt mgX11_forget.2.2.2.2.2 [.ref 16, .int s, .int n, .retAddr 0, .retAddr 0, .retAddr 0, .retAddr 0, .retAddr 0, .retAddr 0] rfl (Nat.le_of_ble_eq_true rfl) ?_
  refine pv_aload_0 (pc := 0) dX11_forget_0 ?_
  refine pv_iload_1 (pc := 1) dX11_forget_1 ?_
  refine pv_callV1 (pc := 2) dX11_forget_2 mgX11_shelfAt lv_X11_66_11 (by decide) (sx_16 hT) (by omega) (c_X11_shelfAt1 hT hR hin) rfl rfl (by decide) ?_
  refine pv_astore_3 (pc := 5) dX11_forget_5 (by decide) rfl ?_
  refine pv_aload_0 (pc := 6) dX11_forget_6 ?_
  refine pv_getR (pc := 7) dX11_forget_7 fg_X11_54_11 rfl (by decide) (sx_16 hT) (rx_16_9 hR) ?_
  refine pv_astore_4 (pc := 10) dX11_forget_10 (by decide) rfl ?_
  refine pv_aload_0 (pc := 12) dX11_forget_12 ?_
  refine pv_getR (pc := 13) dX11_forget_13 fg_X11_58_11 rfl (by decide) (sx_16 hT) (rx_16_10 hR) ?_
  refine pv_astore_5 (pc := 16) dX11_forget_16 (by decide) rfl ?_
  refine pv_aload_4 (pc := 18) dX11_forget_18 ?_
  refine pv_aload_0 (pc := 20) dX11_forget_20 ?_
  refine pv_getR (pc := 21) dX11_forget_21 fg_X11_31_11 rfl (by decide) (sx_16 hT) (rx_16_4 hR) ?_
  refine pv_callVq (pc := 24) dX11_forget_24 mgX2_begin lv_X11_415_2 (by decide) (sx_35 hT) (by omega) (c_X2_begin hT hR (cr_35 hT hR) (Or.inl rfl) (by omega)) rfl rfl (by decide) (fun v t I L Rf hq => ?_)
  obtain ⟨rfl, rfl, rfl, hx0, hg0, h50⟩ := hq
  refine pv_iconst (pc := 27) (v := 0) dX11_forget_27 (by decide) ?_
  refine pv_istore_6 (pc := 28) dX11_forget_28 (by decide) rfl ?_
  rw [hp, hq2] at hx0
  subst en
  have hpw := Nat.pow_le_pow_right (n := 2) (by decide) hth
  exact l_forget hT hR hs8 hN hz hcell (by omega) N 0 35 40 _ _ _ _ _ (by omega) (Or.inl ⟨rfl, rfl⟩) hx0 (by show 1 * _ ≤ 128; omega) rfl (hg0.kC (Or.inl rfl))

