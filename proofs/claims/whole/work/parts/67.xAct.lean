/-! the class: act -/
def XT (J : pv_I) (I : pv_I) : Prop := I 20 0 = J 0 5 ∧ ∀ i : Nat, i < 20 → (i : Int) < (J 0 5).toInt → I 20 (1 + i) = J 11 i
def XN (n : Nat) (J : pv_I) : Prop := 0 ≤ (J 0 5).toInt ∧ (J 0 5).toInt ≤ n
theorem XN.mo {n m : Nat} {J : pv_I} (h : XN n J) (g : n ≤ m) : XN m J := ⟨h.1, by have := h.2; omega⟩
theorem XN.bo {n : Nat} {J : pv_I} (h : XN n J) (b : Int32) (hn : n < 90) : XN (n + 1) (w_body J b) := body_n h hn
theorem XN.cal {n : Nat} {J : pv_I} (h : XN n J) (k : Int32) (hn : n < 80) : XN (n + 3) (w_calB J k) := by
  unfold w_calB
  have a : XN (n + 2) (if s_isC k = true then w_body (if k = 5 then w_body J 60 else J) 20 else if k = 5 then w_body J 60 else J) := by
    have c : XN (n + 1) (if k = 5 then w_body J 60 else J) := by
      split
      · exact h.bo _ (by omega)
      · exact h.mo (by omega)
    split
    · exact c.bo _ (by omega)
    · exact c.mo (by omega)
  exact a.bo _ (by omega)
theorem XN.st {n : Nat} {J : pv_I} (h : XN n J) (k : Int32) (hn : n < 70) : XN (n + 5) (w_stB J k) := by
  unfold w_stB
  have a : XN (n + 1) (if k = 2 then w_body J 30 else if k = 3 then w_body J 40 else if k = 6 then w_body J 71 else J) := by
    split
    · exact h.bo _ (by omega)
    · split
      · exact h.bo _ (by omega)
      · split
        · exact h.bo _ (by omega)
        · exact h.mo (by omega)
  exact (a.bo _ (by omega)).cal k (by omega)
/-- only the trace is other -/
def JB (J J1 : pv_I) : Prop := ∀ a j, a ≠ 11 → ¬ (a = 0 ∧ j = 5) → J1 a j = J a j
theorem JB.rf {J : pv_I} : JB J J := fun _ _ _ _ => rfl
theorem JB.bo {J J1 : pv_I} (h : JB J J1) (b : Int32) : JB J (w_body J1 b) := fun a j h1 h2 => by
  unfold w_body
  rw [pv_u_o _ (by omega), pv_u_o _ (by omega)]
  exact h a j h1 h2
theorem JB.cal {J J1 : pv_I} (h : JB J J1) (k : Int32) : JB J (w_calB J1 k) := by
  unfold w_calB
  refine JB.bo ?_ _
  split
  · refine JB.bo ?_ _
    split
    · exact h.bo _
    · exact h
  · split
    · exact h.bo _
    · exact h
theorem JB.st {J J1 : pv_I} (h : JB J J1) (k : Int32) : JB J (w_stB J1 k) := by
  unfold w_stB
  refine JB.cal (JB.bo ?_ _) _
  split
  · exact h.bo _
  · split
    · exact h.bo _
    · split
      · exact h.bo _
      · exact h
theorem JB.kn {J J1 : pv_I} (h : JB J J1) (k : Int32) : JB J (w_knB J1 k) := by
  unfold w_knB
  refine JB.cal (JB.st (JB.bo ?_ _) _) _
  have c : JB J (w_knC J1 k) := by
    unfold w_knC
    split
    · exact h.bo _
    · split
      · exact h.bo _
      · exact h
  split
  · exact c.bo _
  · exact c
theorem JB.r0 {J : pv_I} : JB J (w_r0 J) := fun a j h1 h2 => by unfold w_r0; rw [pv_u_o _ (by omega)]
theorem RX.bo {J J1 : pv_I} {K : pv_L} {t : pv_T} {I I1 : pv_I} {L : pv_L} {Rf : pv_R} (h : RX J K t I L Rf) (hJ : JB J J1) (hI : ∀ a j, a ≠ 20 → I1 a j = I a j) (hT : XT J1 I1) : RX J1 K t I1 L Rf := by
  obtain ⟨h1, h2, h3, h4, h5, h6, h7⟩ := h
  have ja : ∀ a, a ≠ 11 → a ≠ 0 → J1 a = J a := fun a x1 x2 => funext fun j => hJ a j x1 (by omega)
  have z : ∀ j, j ≠ 5 → J1 0 j = J 0 j := fun j q => hJ 0 j (by decide) (by omega)
  refine ⟨h1, h2, ?_, fun i hi => ?_, fun s hs => ?_, ⟨fun k hk => ?_, ?_, ?_, hT.1, hT.2⟩, fun q => ?_⟩
  · rw [z 0 (by decide), z 1 (by decide), z 2 (by decide), z 3 (by decide), ja 4 (by decide) (by decide)]
    exact h3.cg (fun j => hI 21 j (by decide)) (fun j => hI 22 j (by decide)) (fun _ => rfl)
  · rw [z 0 (by decide)] at hi
    rw [ja 1 (by decide) (by decide), ja 2 (by decide) (by decide), ja 3 (by decide) (by decide)]
    exact h4.cg (fun a j ha => hI a j (by omega)) i hi
  · have g := (h5 s hs).cg (fun j _ => hI _ j (by omega)) (fun _ => rfl)
    unfold XS at g ⊢
    rw [ja 6 (by decide) (by decide), ja 7 (by decide) (by decide), ja 8 (by decide) (by decide), ja 9 (by decide) (by decide)]
    exact g
  · rw [hI 19 k (by decide), ja 10 (by decide) (by decide)]; exact h6.1 k hk
  · rw [hI 16 12 (by decide), z 4 (by decide)]; exact h6.2.1
  · rw [hI 16 11 (by decide), z 6 (by decide)]; exact h6.2.2.1
  · rw [z 6 (by decide)] at q
    rw [z 7 (by decide), z 8 (by decide), z 9 (by decide), z 10 (by decide), ja 5 (by decide) (by decide)]
    exact (h7 q).cg (fun j => hI 23 j (by decide)) (fun j => hI 24 j (by decide)) (fun _ => rfl)
theorem XT.bo {J : pv_I} {I : pv_I} (h : XT J I) (hn : XN 90 J) (b : Int32) {I1 : pv_I} (h0 : I1 20 0 = I 20 0 + 1) (h1 : (J 0 5).toInt < 20 → I1 20 (1 + (J 0 5).toNatClampNeg) = b) (h2 : ∀ j : Nat, 1 ≤ j → (j : Int) ≠ 1 + (J 0 5).toInt → I1 20 j = I 20 j) : XT (w_body J b) I1 := by
  obtain ⟨x1, x2⟩ := h
  obtain ⟨n1, n2⟩ := hn
  have hl := i_lit (J 0 5)
  have e1 : (J 0 5 + 1).toInt = (J 0 5).toInt + 1 := by
    rw [Jvm.Kit.i32_add (by rw [show (1 : Int32).toInt = 1 by decide]; omega) (by rw [show (1 : Int32).toInt = 1 by decide]; omega)]; rfl
  refine ⟨h0.trans (by rw [x1]; rfl), fun i hi hi2 => ?_⟩
  have hi3 : (i : Int) < (J 0 5 + 1).toInt := hi2
  show I1 20 (1 + i) = pv_u (pv_u J 11 (J 0 5).toNatClampNeg (if J 0 5 < 20 then b else J 11 (J 0 5).toNatClampNeg)) 0 5 (J 0 5 + 1) 11 i
  rw [pv_u_o _ (by omega), pv_u_eq]
  by_cases e : i = (J 0 5).toNatClampNeg
  · rw [if_pos e, if_pos (by rw [i_lt, show (20 : Int32).toInt = 20 by decide]; omega), e]
    exact h1 (by omega)
  · rw [if_neg e, h2 _ (by omega) (by omega)]
    exact x2 i hi (by omega)
theorem x_n1 {x : Int32} (h : 0 ≤ x.toInt ∧ x.toInt ≤ 90) : (x + 1).toInt = x.toInt + 1 := by
  rw [Jvm.Kit.i32_add (by rw [show (1 : Int32).toInt = 1 by decide]; omega) (by rw [show (1 : Int32).toInt = 1 by decide]; omega)]; rfl

theorem x_rin {J I : pv_I} (hk : XT J I) (hn : XN 90 J) (h : pv_u I 20 0 (I 20 0 + 1) 20 0 < Int32.ofNat 21) : vp_in (pv_u I 20 0 (I 20 0 + 1) 20 0) 21 := by
  have e : pv_u I 20 0 (I 20 0 + 1) 20 0 = J 0 5 + 1 := by rw [pv_u_eq, if_pos rfl, hk.1]
  rw [e] at h ⊢
  rw [i_lt, x_n1 hn, show (Int32.ofNat 21).toInt = 21 by decide] at h
  have := hn.1
  exact pv_in_of (by rw [x_n1 hn]; omega) (by rw [x_n1 hn]; omega)
theorem x_fof {J : pv_I} {f : Int32} (h : w_isF J f) : Int32.ofNat f.toNatClampNeg = f := by
  have h0 := h.1
  rw [i_le, Int32.toInt_zero] at h0
  exact x_iof h0

set_option maxRecDepth 100000 in
set_option maxHeartbeats 4000000 in
theorem c_X3_ran_0 {G : pv_G} {d : Nat} {b : Int32} {x : Nat} {y a : Int32} {J : pv_I} {t : pv_T} {I : pv_I} {L : pv_L} {Rf : pv_R} (hT : sh_ok t) (hx : 90 ≤ x) (hs : t.1 x = some (.inr 0)) (hb : Rf x 4 = some 20) (f1 : I x 1 = y) (f2 : I x 2 = a) (hk : XT J I) (hn : XN 90 J)  : pv_Mt G mX3_ran d 0 0 [.ref x, .int b] t I L Rf (fun v t1 I1 L1 R1 => v = none ∧ t1 = t ∧ L1 = L ∧ R1 = Rf ∧ (∀ a j, a ≠ 20 → I1 a j = I a j) ∧ XT (w_body J b) I1) := by
  refine pv_mt mgX3_ran.2.2.2.2.2 [.ref x, .int b] rfl (Nat.le_of_ble_eq_true rfl) ?_
  refine pv_aload_0 (pc := 0) dX3_ran_0 ?_
  refine pv_getR (pc := 1) dX3_ran_1 fg_X3_22_0 rfl (by omega) hs hb ?_
  refine pv_iconst (pc := 4) (v := 0) dX3_ran_4 (by decide) ?_
  refine pv_dup2 (pc := 5) dX3_ran_5 rfl rfl ?_
  refine pv_ialoadj (pc := 6) dX3_ran_6 (sx_20 hT) (j := 0) (by decide) (by unfold vp_in; decide) ?_
  refine pv_iconst (pc := 7) (v := 1) dX3_ran_7 (by decide) ?_
  refine pv_iadd (pc := 8) dX3_ran_8 ?_
  refine pv_iastorej (pc := 9) dX3_ran_9 (by decide) (sx_20 hT) (j := 0) (by decide) (by unfold vp_in; decide) ?_
  refine pv_aload_0 (pc := 10) dX3_ran_10 ?_
  refine pv_getR (pc := 11) dX3_ran_11 fg_X3_22_0 rfl (by omega) hs hb ?_
  refine pv_iconst (pc := 14) (v := 0) dX3_ran_14 (by decide) ?_
  refine pv_ialoadj (pc := 15) dX3_ran_15 (sx_20 hT) (j := 0) (by decide) (by unfold vp_in; decide) ?_
  refine pv_if_le (pc := 16) (tgt := 45) dX3_ran_16 (by decide) (fun h16 => absurd h16 (fun q => by have e20 := hk.1; have q2 : ¬ 0 < (I 20 0 + 1).toInt := (by have z : ¬ 0 < I 20 0 + 1 := q; rw [i_lt, Int32.toInt_zero] at z; exact z); rw [e20, x_n1 hn] at q2; have := hn.1; omega)) (fun h16 => ?_)
  refine pv_aload_0 (pc := 19) dX3_ran_19 ?_
  refine pv_getR (pc := 20) dX3_ran_20 fg_X3_22_0 rfl (by omega) hs hb ?_
  refine pv_iconst (pc := 23) (v := 0) dX3_ran_23 (by decide) ?_
  refine pv_ialoadj (pc := 24) dX3_ran_24 (sx_20 hT) (j := 0) (by decide) (by unfold vp_in; decide) ?_
  refine pv_aload_0 (pc := 25) dX3_ran_25 ?_
  refine pv_getR (pc := 26) dX3_ran_26 fg_X3_22_0 rfl (by omega) hs hb ?_
  refine pv_alen (pc := 29) dX3_ran_29 (sx_20 hT) rfl ?_
  refine pv_icmp_ge (pc := 30) (tgt := 45) dX3_ran_30 (by decide) (fun h30 => ?_) (fun h30 => ?_)
  · refine pv_vret (pc := 45) dX3_ran_45 rfl ?_
    have e20 : I 20 0 = J 0 5 := hk.1
    have n1 := x_n1 (x := J 0 5) hn
    have r1 : pv_u I 20 0 (I 20 0 + 1) 20 0 = I 20 0 + 1 := by rw [pv_u_eq, if_pos rfl]
    have f30 : ¬ I 20 0 + 1 < Int32.ofNat 21 := h30
    rw [i_lt, e20, n1, show (Int32.ofNat 21).toInt = 21 by decide] at f30
    exact ⟨rfl, rfl, rfl, rfl, fun a j q => (by rw [pv_u_o _ (by omega)]), XT.bo hk hn b r1 (fun q => absurd q (by omega)) (fun j g1 g2 => (by rw [pv_u_o _ (by omega)]))⟩
  · refine pv_aload_0 (pc := 33) dX3_ran_33 ?_
    refine pv_getR (pc := 34) dX3_ran_34 fg_X3_22_0 rfl (by omega) hs hb ?_
    refine pv_aload_0 (pc := 37) dX3_ran_37 ?_
    refine pv_getR (pc := 38) dX3_ran_38 fg_X3_22_0 rfl (by omega) hs hb ?_
    refine pv_iconst (pc := 41) (v := 0) dX3_ran_41 (by decide) ?_
    refine pv_ialoadj (pc := 42) dX3_ran_42 (sx_20 hT) (j := 0) (by decide) (by unfold vp_in; decide) ?_
    refine pv_iload_1 (pc := 43) dX3_ran_43 ?_
    refine pv_iastorej (pc := 44) dX3_ran_44 (by decide) (sx_20 hT) rfl (x_rin hk hn h30) ?_
    refine pv_vret (pc := 45) dX3_ran_45 rfl ?_
    have e20 : I 20 0 = J 0 5 := hk.1
    have n1 := x_n1 (x := J 0 5) hn
    have r1 : pv_u I 20 0 (I 20 0 + 1) 20 0 = I 20 0 + 1 := by rw [pv_u_eq, if_pos rfl]
    have f30 : I 20 0 + 1 < Int32.ofNat 21 := (by first | exact h30 | exact Classical.not_not.mp h30)
    rw [i_lt, e20, n1, show (Int32.ofNat 21).toInt = 21 by decide] at f30
    have hl := i_lit (J 0 5)
    have hl2 := i_lit (J 0 5 + 1)
    have hn2 := hn.1
    have ex : (pv_u I 20 0 (I 20 0 + 1) 20 0).toNatClampNeg = 1 + (J 0 5).toNatClampNeg := by rw [r1, e20]; omega
    rw [ex]
    refine ⟨rfl, rfl, rfl, rfl, fun a j q => (by rw [pv_u_o _ (by omega), pv_u_o _ (by omega)]), XT.bo hk hn b ?_ (fun _ => ?_) (fun j g1 g2 => ?_)⟩
    · rw [pv_u_o _ (by omega)]; exact r1
    · rw [pv_u_eq, if_pos rfl]
    · rw [pv_u_o _ (by omega), pv_u_o _ (by omega)]

set_option maxRecDepth 100000 in
set_option maxHeartbeats 4000000 in
theorem c_X3_ran_1 {G : pv_G} {d : Nat} {b : Int32} {x : Nat} {y a : Int32} {J : pv_I} {t : pv_T} {I : pv_I} {L : pv_L} {Rf : pv_R} (hT : sh_ok t) (hx : 90 ≤ x) (hs : t.1 x = some (.inr 1)) (hb : Rf x 4 = some 20) (f1 : I x 1 = y) (f2 : I x 2 = a) (hk : XT J I) (hn : XN 90 J)  : pv_Mt G mX3_ran d 0 0 [.ref x, .int b] t I L Rf (fun v t1 I1 L1 R1 => v = none ∧ t1 = t ∧ L1 = L ∧ R1 = Rf ∧ (∀ a j, a ≠ 20 → I1 a j = I a j) ∧ XT (w_body J b) I1) := by
  refine pv_mt mgX3_ran.2.2.2.2.2 [.ref x, .int b] rfl (Nat.le_of_ble_eq_true rfl) ?_
  refine pv_aload_0 (pc := 0) dX3_ran_0 ?_
  refine pv_getR (pc := 1) dX3_ran_1 fg_X3_22_1 rfl (by omega) hs hb ?_
  refine pv_iconst (pc := 4) (v := 0) dX3_ran_4 (by decide) ?_
  refine pv_dup2 (pc := 5) dX3_ran_5 rfl rfl ?_
  refine pv_ialoadj (pc := 6) dX3_ran_6 (sx_20 hT) (j := 0) (by decide) (by unfold vp_in; decide) ?_
  refine pv_iconst (pc := 7) (v := 1) dX3_ran_7 (by decide) ?_
  refine pv_iadd (pc := 8) dX3_ran_8 ?_
  refine pv_iastorej (pc := 9) dX3_ran_9 (by decide) (sx_20 hT) (j := 0) (by decide) (by unfold vp_in; decide) ?_
  refine pv_aload_0 (pc := 10) dX3_ran_10 ?_
  refine pv_getR (pc := 11) dX3_ran_11 fg_X3_22_1 rfl (by omega) hs hb ?_
  refine pv_iconst (pc := 14) (v := 0) dX3_ran_14 (by decide) ?_
  refine pv_ialoadj (pc := 15) dX3_ran_15 (sx_20 hT) (j := 0) (by decide) (by unfold vp_in; decide) ?_
  refine pv_if_le (pc := 16) (tgt := 45) dX3_ran_16 (by decide) (fun h16 => absurd h16 (fun q => by have e20 := hk.1; have q2 : ¬ 0 < (I 20 0 + 1).toInt := (by have z : ¬ 0 < I 20 0 + 1 := q; rw [i_lt, Int32.toInt_zero] at z; exact z); rw [e20, x_n1 hn] at q2; have := hn.1; omega)) (fun h16 => ?_)
  refine pv_aload_0 (pc := 19) dX3_ran_19 ?_
  refine pv_getR (pc := 20) dX3_ran_20 fg_X3_22_1 rfl (by omega) hs hb ?_
  refine pv_iconst (pc := 23) (v := 0) dX3_ran_23 (by decide) ?_
  refine pv_ialoadj (pc := 24) dX3_ran_24 (sx_20 hT) (j := 0) (by decide) (by unfold vp_in; decide) ?_
  refine pv_aload_0 (pc := 25) dX3_ran_25 ?_
  refine pv_getR (pc := 26) dX3_ran_26 fg_X3_22_1 rfl (by omega) hs hb ?_
  refine pv_alen (pc := 29) dX3_ran_29 (sx_20 hT) rfl ?_
  refine pv_icmp_ge (pc := 30) (tgt := 45) dX3_ran_30 (by decide) (fun h30 => ?_) (fun h30 => ?_)
  · refine pv_vret (pc := 45) dX3_ran_45 rfl ?_
    have e20 : I 20 0 = J 0 5 := hk.1
    have n1 := x_n1 (x := J 0 5) hn
    have r1 : pv_u I 20 0 (I 20 0 + 1) 20 0 = I 20 0 + 1 := by rw [pv_u_eq, if_pos rfl]
    have f30 : ¬ I 20 0 + 1 < Int32.ofNat 21 := h30
    rw [i_lt, e20, n1, show (Int32.ofNat 21).toInt = 21 by decide] at f30
    exact ⟨rfl, rfl, rfl, rfl, fun a j q => (by rw [pv_u_o _ (by omega)]), XT.bo hk hn b r1 (fun q => absurd q (by omega)) (fun j g1 g2 => (by rw [pv_u_o _ (by omega)]))⟩
  · refine pv_aload_0 (pc := 33) dX3_ran_33 ?_
    refine pv_getR (pc := 34) dX3_ran_34 fg_X3_22_1 rfl (by omega) hs hb ?_
    refine pv_aload_0 (pc := 37) dX3_ran_37 ?_
    refine pv_getR (pc := 38) dX3_ran_38 fg_X3_22_1 rfl (by omega) hs hb ?_
    refine pv_iconst (pc := 41) (v := 0) dX3_ran_41 (by decide) ?_
    refine pv_ialoadj (pc := 42) dX3_ran_42 (sx_20 hT) (j := 0) (by decide) (by unfold vp_in; decide) ?_
    refine pv_iload_1 (pc := 43) dX3_ran_43 ?_
    refine pv_iastorej (pc := 44) dX3_ran_44 (by decide) (sx_20 hT) rfl (x_rin hk hn h30) ?_
    refine pv_vret (pc := 45) dX3_ran_45 rfl ?_
    have e20 : I 20 0 = J 0 5 := hk.1
    have n1 := x_n1 (x := J 0 5) hn
    have r1 : pv_u I 20 0 (I 20 0 + 1) 20 0 = I 20 0 + 1 := by rw [pv_u_eq, if_pos rfl]
    have f30 : I 20 0 + 1 < Int32.ofNat 21 := (by first | exact h30 | exact Classical.not_not.mp h30)
    rw [i_lt, e20, n1, show (Int32.ofNat 21).toInt = 21 by decide] at f30
    have hl := i_lit (J 0 5)
    have hl2 := i_lit (J 0 5 + 1)
    have hn2 := hn.1
    have ex : (pv_u I 20 0 (I 20 0 + 1) 20 0).toNatClampNeg = 1 + (J 0 5).toNatClampNeg := by rw [r1, e20]; omega
    rw [ex]
    refine ⟨rfl, rfl, rfl, rfl, fun a j q => (by rw [pv_u_o _ (by omega), pv_u_o _ (by omega)]), XT.bo hk hn b ?_ (fun _ => ?_) (fun j g1 g2 => ?_)⟩
    · rw [pv_u_o _ (by omega)]; exact r1
    · rw [pv_u_eq, if_pos rfl]
    · rw [pv_u_o _ (by omega), pv_u_o _ (by omega)]

set_option maxRecDepth 100000 in
set_option maxHeartbeats 4000000 in
theorem c_X3_ran_3 {G : pv_G} {d : Nat} {b : Int32} {x : Nat} {y a : Int32} {J : pv_I} {t : pv_T} {I : pv_I} {L : pv_L} {Rf : pv_R} (hT : sh_ok t) (hx : 90 ≤ x) (hs : t.1 x = some (.inr 3)) (hb : Rf x 4 = some 20) (f1 : I x 1 = y) (f2 : I x 2 = a) (hk : XT J I) (hn : XN 90 J)  : pv_Mt G mX3_ran d 0 0 [.ref x, .int b] t I L Rf (fun v t1 I1 L1 R1 => v = none ∧ t1 = t ∧ L1 = L ∧ R1 = Rf ∧ (∀ a j, a ≠ 20 → I1 a j = I a j) ∧ XT (w_body J b) I1) := by
  refine pv_mt mgX3_ran.2.2.2.2.2 [.ref x, .int b] rfl (Nat.le_of_ble_eq_true rfl) ?_
  refine pv_aload_0 (pc := 0) dX3_ran_0 ?_
  refine pv_getR (pc := 1) dX3_ran_1 fg_X3_22_3 rfl (by omega) hs hb ?_
  refine pv_iconst (pc := 4) (v := 0) dX3_ran_4 (by decide) ?_
  refine pv_dup2 (pc := 5) dX3_ran_5 rfl rfl ?_
  refine pv_ialoadj (pc := 6) dX3_ran_6 (sx_20 hT) (j := 0) (by decide) (by unfold vp_in; decide) ?_
  refine pv_iconst (pc := 7) (v := 1) dX3_ran_7 (by decide) ?_
  refine pv_iadd (pc := 8) dX3_ran_8 ?_
  refine pv_iastorej (pc := 9) dX3_ran_9 (by decide) (sx_20 hT) (j := 0) (by decide) (by unfold vp_in; decide) ?_
  refine pv_aload_0 (pc := 10) dX3_ran_10 ?_
  refine pv_getR (pc := 11) dX3_ran_11 fg_X3_22_3 rfl (by omega) hs hb ?_
  refine pv_iconst (pc := 14) (v := 0) dX3_ran_14 (by decide) ?_
  refine pv_ialoadj (pc := 15) dX3_ran_15 (sx_20 hT) (j := 0) (by decide) (by unfold vp_in; decide) ?_
  refine pv_if_le (pc := 16) (tgt := 45) dX3_ran_16 (by decide) (fun h16 => absurd h16 (fun q => by have e20 := hk.1; have q2 : ¬ 0 < (I 20 0 + 1).toInt := (by have z : ¬ 0 < I 20 0 + 1 := q; rw [i_lt, Int32.toInt_zero] at z; exact z); rw [e20, x_n1 hn] at q2; have := hn.1; omega)) (fun h16 => ?_)
  refine pv_aload_0 (pc := 19) dX3_ran_19 ?_
  refine pv_getR (pc := 20) dX3_ran_20 fg_X3_22_3 rfl (by omega) hs hb ?_
  refine pv_iconst (pc := 23) (v := 0) dX3_ran_23 (by decide) ?_
  refine pv_ialoadj (pc := 24) dX3_ran_24 (sx_20 hT) (j := 0) (by decide) (by unfold vp_in; decide) ?_
  refine pv_aload_0 (pc := 25) dX3_ran_25 ?_
  refine pv_getR (pc := 26) dX3_ran_26 fg_X3_22_3 rfl (by omega) hs hb ?_
  refine pv_alen (pc := 29) dX3_ran_29 (sx_20 hT) rfl ?_
  refine pv_icmp_ge (pc := 30) (tgt := 45) dX3_ran_30 (by decide) (fun h30 => ?_) (fun h30 => ?_)
  · refine pv_vret (pc := 45) dX3_ran_45 rfl ?_
    have e20 : I 20 0 = J 0 5 := hk.1
    have n1 := x_n1 (x := J 0 5) hn
    have r1 : pv_u I 20 0 (I 20 0 + 1) 20 0 = I 20 0 + 1 := by rw [pv_u_eq, if_pos rfl]
    have f30 : ¬ I 20 0 + 1 < Int32.ofNat 21 := h30
    rw [i_lt, e20, n1, show (Int32.ofNat 21).toInt = 21 by decide] at f30
    exact ⟨rfl, rfl, rfl, rfl, fun a j q => (by rw [pv_u_o _ (by omega)]), XT.bo hk hn b r1 (fun q => absurd q (by omega)) (fun j g1 g2 => (by rw [pv_u_o _ (by omega)]))⟩
  · refine pv_aload_0 (pc := 33) dX3_ran_33 ?_
    refine pv_getR (pc := 34) dX3_ran_34 fg_X3_22_3 rfl (by omega) hs hb ?_
    refine pv_aload_0 (pc := 37) dX3_ran_37 ?_
    refine pv_getR (pc := 38) dX3_ran_38 fg_X3_22_3 rfl (by omega) hs hb ?_
    refine pv_iconst (pc := 41) (v := 0) dX3_ran_41 (by decide) ?_
    refine pv_ialoadj (pc := 42) dX3_ran_42 (sx_20 hT) (j := 0) (by decide) (by unfold vp_in; decide) ?_
    refine pv_iload_1 (pc := 43) dX3_ran_43 ?_
    refine pv_iastorej (pc := 44) dX3_ran_44 (by decide) (sx_20 hT) rfl (x_rin hk hn h30) ?_
    refine pv_vret (pc := 45) dX3_ran_45 rfl ?_
    have e20 : I 20 0 = J 0 5 := hk.1
    have n1 := x_n1 (x := J 0 5) hn
    have r1 : pv_u I 20 0 (I 20 0 + 1) 20 0 = I 20 0 + 1 := by rw [pv_u_eq, if_pos rfl]
    have f30 : I 20 0 + 1 < Int32.ofNat 21 := (by first | exact h30 | exact Classical.not_not.mp h30)
    rw [i_lt, e20, n1, show (Int32.ofNat 21).toInt = 21 by decide] at f30
    have hl := i_lit (J 0 5)
    have hl2 := i_lit (J 0 5 + 1)
    have hn2 := hn.1
    have ex : (pv_u I 20 0 (I 20 0 + 1) 20 0).toNatClampNeg = 1 + (J 0 5).toNatClampNeg := by rw [r1, e20]; omega
    rw [ex]
    refine ⟨rfl, rfl, rfl, rfl, fun a j q => (by rw [pv_u_o _ (by omega), pv_u_o _ (by omega)]), XT.bo hk hn b ?_ (fun _ => ?_) (fun j g1 g2 => ?_)⟩
    · rw [pv_u_o _ (by omega)]; exact r1
    · rw [pv_u_eq, if_pos rfl]
    · rw [pv_u_o _ (by omega), pv_u_o _ (by omega)]

set_option maxRecDepth 100000 in
set_option maxHeartbeats 4000000 in
theorem c_X3_ran_5 {G : pv_G} {d : Nat} {b : Int32} {x : Nat} {y a : Int32} {J : pv_I} {t : pv_T} {I : pv_I} {L : pv_L} {Rf : pv_R} (hT : sh_ok t) (hx : 90 ≤ x) (hs : t.1 x = some (.inr 5)) (hb : Rf x 4 = some 20) (f1 : I x 1 = y) (f2 : I x 2 = a) (hk : XT J I) (hn : XN 90 J)  : pv_Mt G mX3_ran d 0 0 [.ref x, .int b] t I L Rf (fun v t1 I1 L1 R1 => v = none ∧ t1 = t ∧ L1 = L ∧ R1 = Rf ∧ (∀ a j, a ≠ 20 → I1 a j = I a j) ∧ XT (w_body J b) I1) := by
  refine pv_mt mgX3_ran.2.2.2.2.2 [.ref x, .int b] rfl (Nat.le_of_ble_eq_true rfl) ?_
  refine pv_aload_0 (pc := 0) dX3_ran_0 ?_
  refine pv_getR (pc := 1) dX3_ran_1 fg_X3_22_5 rfl (by omega) hs hb ?_
  refine pv_iconst (pc := 4) (v := 0) dX3_ran_4 (by decide) ?_
  refine pv_dup2 (pc := 5) dX3_ran_5 rfl rfl ?_
  refine pv_ialoadj (pc := 6) dX3_ran_6 (sx_20 hT) (j := 0) (by decide) (by unfold vp_in; decide) ?_
  refine pv_iconst (pc := 7) (v := 1) dX3_ran_7 (by decide) ?_
  refine pv_iadd (pc := 8) dX3_ran_8 ?_
  refine pv_iastorej (pc := 9) dX3_ran_9 (by decide) (sx_20 hT) (j := 0) (by decide) (by unfold vp_in; decide) ?_
  refine pv_aload_0 (pc := 10) dX3_ran_10 ?_
  refine pv_getR (pc := 11) dX3_ran_11 fg_X3_22_5 rfl (by omega) hs hb ?_
  refine pv_iconst (pc := 14) (v := 0) dX3_ran_14 (by decide) ?_
  refine pv_ialoadj (pc := 15) dX3_ran_15 (sx_20 hT) (j := 0) (by decide) (by unfold vp_in; decide) ?_
  refine pv_if_le (pc := 16) (tgt := 45) dX3_ran_16 (by decide) (fun h16 => absurd h16 (fun q => by have e20 := hk.1; have q2 : ¬ 0 < (I 20 0 + 1).toInt := (by have z : ¬ 0 < I 20 0 + 1 := q; rw [i_lt, Int32.toInt_zero] at z; exact z); rw [e20, x_n1 hn] at q2; have := hn.1; omega)) (fun h16 => ?_)
  refine pv_aload_0 (pc := 19) dX3_ran_19 ?_
  refine pv_getR (pc := 20) dX3_ran_20 fg_X3_22_5 rfl (by omega) hs hb ?_
  refine pv_iconst (pc := 23) (v := 0) dX3_ran_23 (by decide) ?_
  refine pv_ialoadj (pc := 24) dX3_ran_24 (sx_20 hT) (j := 0) (by decide) (by unfold vp_in; decide) ?_
  refine pv_aload_0 (pc := 25) dX3_ran_25 ?_
  refine pv_getR (pc := 26) dX3_ran_26 fg_X3_22_5 rfl (by omega) hs hb ?_
  refine pv_alen (pc := 29) dX3_ran_29 (sx_20 hT) rfl ?_
  refine pv_icmp_ge (pc := 30) (tgt := 45) dX3_ran_30 (by decide) (fun h30 => ?_) (fun h30 => ?_)
  · refine pv_vret (pc := 45) dX3_ran_45 rfl ?_
    have e20 : I 20 0 = J 0 5 := hk.1
    have n1 := x_n1 (x := J 0 5) hn
    have r1 : pv_u I 20 0 (I 20 0 + 1) 20 0 = I 20 0 + 1 := by rw [pv_u_eq, if_pos rfl]
    have f30 : ¬ I 20 0 + 1 < Int32.ofNat 21 := h30
    rw [i_lt, e20, n1, show (Int32.ofNat 21).toInt = 21 by decide] at f30
    exact ⟨rfl, rfl, rfl, rfl, fun a j q => (by rw [pv_u_o _ (by omega)]), XT.bo hk hn b r1 (fun q => absurd q (by omega)) (fun j g1 g2 => (by rw [pv_u_o _ (by omega)]))⟩
  · refine pv_aload_0 (pc := 33) dX3_ran_33 ?_
    refine pv_getR (pc := 34) dX3_ran_34 fg_X3_22_5 rfl (by omega) hs hb ?_
    refine pv_aload_0 (pc := 37) dX3_ran_37 ?_
    refine pv_getR (pc := 38) dX3_ran_38 fg_X3_22_5 rfl (by omega) hs hb ?_
    refine pv_iconst (pc := 41) (v := 0) dX3_ran_41 (by decide) ?_
    refine pv_ialoadj (pc := 42) dX3_ran_42 (sx_20 hT) (j := 0) (by decide) (by unfold vp_in; decide) ?_
    refine pv_iload_1 (pc := 43) dX3_ran_43 ?_
    refine pv_iastorej (pc := 44) dX3_ran_44 (by decide) (sx_20 hT) rfl (x_rin hk hn h30) ?_
    refine pv_vret (pc := 45) dX3_ran_45 rfl ?_
    have e20 : I 20 0 = J 0 5 := hk.1
    have n1 := x_n1 (x := J 0 5) hn
    have r1 : pv_u I 20 0 (I 20 0 + 1) 20 0 = I 20 0 + 1 := by rw [pv_u_eq, if_pos rfl]
    have f30 : I 20 0 + 1 < Int32.ofNat 21 := (by first | exact h30 | exact Classical.not_not.mp h30)
    rw [i_lt, e20, n1, show (Int32.ofNat 21).toInt = 21 by decide] at f30
    have hl := i_lit (J 0 5)
    have hl2 := i_lit (J 0 5 + 1)
    have hn2 := hn.1
    have ex : (pv_u I 20 0 (I 20 0 + 1) 20 0).toNatClampNeg = 1 + (J 0 5).toNatClampNeg := by rw [r1, e20]; omega
    rw [ex]
    refine ⟨rfl, rfl, rfl, rfl, fun a j q => (by rw [pv_u_o _ (by omega), pv_u_o _ (by omega)]), XT.bo hk hn b ?_ (fun _ => ?_) (fun j g1 g2 => ?_)⟩
    · rw [pv_u_o _ (by omega)]; exact r1
    · rw [pv_u_eq, if_pos rfl]
    · rw [pv_u_o _ (by omega), pv_u_o _ (by omega)]

set_option maxRecDepth 100000 in
set_option maxHeartbeats 4000000 in
theorem c_X3_ran_6 {G : pv_G} {d : Nat} {b : Int32} {x : Nat} {y a : Int32} {J : pv_I} {t : pv_T} {I : pv_I} {L : pv_L} {Rf : pv_R} (hT : sh_ok t) (hx : 90 ≤ x) (hs : t.1 x = some (.inr 6)) (hb : Rf x 4 = some 20) (f1 : I x 1 = y) (f2 : I x 2 = a) (hk : XT J I) (hn : XN 90 J)  : pv_Mt G mX3_ran d 0 0 [.ref x, .int b] t I L Rf (fun v t1 I1 L1 R1 => v = none ∧ t1 = t ∧ L1 = L ∧ R1 = Rf ∧ (∀ a j, a ≠ 20 → I1 a j = I a j) ∧ XT (w_body J b) I1) := by
  refine pv_mt mgX3_ran.2.2.2.2.2 [.ref x, .int b] rfl (Nat.le_of_ble_eq_true rfl) ?_
  refine pv_aload_0 (pc := 0) dX3_ran_0 ?_
  refine pv_getR (pc := 1) dX3_ran_1 fg_X3_22_6 rfl (by omega) hs hb ?_
  refine pv_iconst (pc := 4) (v := 0) dX3_ran_4 (by decide) ?_
  refine pv_dup2 (pc := 5) dX3_ran_5 rfl rfl ?_
  refine pv_ialoadj (pc := 6) dX3_ran_6 (sx_20 hT) (j := 0) (by decide) (by unfold vp_in; decide) ?_
  refine pv_iconst (pc := 7) (v := 1) dX3_ran_7 (by decide) ?_
  refine pv_iadd (pc := 8) dX3_ran_8 ?_
  refine pv_iastorej (pc := 9) dX3_ran_9 (by decide) (sx_20 hT) (j := 0) (by decide) (by unfold vp_in; decide) ?_
  refine pv_aload_0 (pc := 10) dX3_ran_10 ?_
  refine pv_getR (pc := 11) dX3_ran_11 fg_X3_22_6 rfl (by omega) hs hb ?_
  refine pv_iconst (pc := 14) (v := 0) dX3_ran_14 (by decide) ?_
  refine pv_ialoadj (pc := 15) dX3_ran_15 (sx_20 hT) (j := 0) (by decide) (by unfold vp_in; decide) ?_
  refine pv_if_le (pc := 16) (tgt := 45) dX3_ran_16 (by decide) (fun h16 => absurd h16 (fun q => by have e20 := hk.1; have q2 : ¬ 0 < (I 20 0 + 1).toInt := (by have z : ¬ 0 < I 20 0 + 1 := q; rw [i_lt, Int32.toInt_zero] at z; exact z); rw [e20, x_n1 hn] at q2; have := hn.1; omega)) (fun h16 => ?_)
  refine pv_aload_0 (pc := 19) dX3_ran_19 ?_
  refine pv_getR (pc := 20) dX3_ran_20 fg_X3_22_6 rfl (by omega) hs hb ?_
  refine pv_iconst (pc := 23) (v := 0) dX3_ran_23 (by decide) ?_
  refine pv_ialoadj (pc := 24) dX3_ran_24 (sx_20 hT) (j := 0) (by decide) (by unfold vp_in; decide) ?_
  refine pv_aload_0 (pc := 25) dX3_ran_25 ?_
  refine pv_getR (pc := 26) dX3_ran_26 fg_X3_22_6 rfl (by omega) hs hb ?_
  refine pv_alen (pc := 29) dX3_ran_29 (sx_20 hT) rfl ?_
  refine pv_icmp_ge (pc := 30) (tgt := 45) dX3_ran_30 (by decide) (fun h30 => ?_) (fun h30 => ?_)
  · refine pv_vret (pc := 45) dX3_ran_45 rfl ?_
    have e20 : I 20 0 = J 0 5 := hk.1
    have n1 := x_n1 (x := J 0 5) hn
    have r1 : pv_u I 20 0 (I 20 0 + 1) 20 0 = I 20 0 + 1 := by rw [pv_u_eq, if_pos rfl]
    have f30 : ¬ I 20 0 + 1 < Int32.ofNat 21 := h30
    rw [i_lt, e20, n1, show (Int32.ofNat 21).toInt = 21 by decide] at f30
    exact ⟨rfl, rfl, rfl, rfl, fun a j q => (by rw [pv_u_o _ (by omega)]), XT.bo hk hn b r1 (fun q => absurd q (by omega)) (fun j g1 g2 => (by rw [pv_u_o _ (by omega)]))⟩
  · refine pv_aload_0 (pc := 33) dX3_ran_33 ?_
    refine pv_getR (pc := 34) dX3_ran_34 fg_X3_22_6 rfl (by omega) hs hb ?_
    refine pv_aload_0 (pc := 37) dX3_ran_37 ?_
    refine pv_getR (pc := 38) dX3_ran_38 fg_X3_22_6 rfl (by omega) hs hb ?_
    refine pv_iconst (pc := 41) (v := 0) dX3_ran_41 (by decide) ?_
    refine pv_ialoadj (pc := 42) dX3_ran_42 (sx_20 hT) (j := 0) (by decide) (by unfold vp_in; decide) ?_
    refine pv_iload_1 (pc := 43) dX3_ran_43 ?_
    refine pv_iastorej (pc := 44) dX3_ran_44 (by decide) (sx_20 hT) rfl (x_rin hk hn h30) ?_
    refine pv_vret (pc := 45) dX3_ran_45 rfl ?_
    have e20 : I 20 0 = J 0 5 := hk.1
    have n1 := x_n1 (x := J 0 5) hn
    have r1 : pv_u I 20 0 (I 20 0 + 1) 20 0 = I 20 0 + 1 := by rw [pv_u_eq, if_pos rfl]
    have f30 : I 20 0 + 1 < Int32.ofNat 21 := (by first | exact h30 | exact Classical.not_not.mp h30)
    rw [i_lt, e20, n1, show (Int32.ofNat 21).toInt = 21 by decide] at f30
    have hl := i_lit (J 0 5)
    have hl2 := i_lit (J 0 5 + 1)
    have hn2 := hn.1
    have ex : (pv_u I 20 0 (I 20 0 + 1) 20 0).toNatClampNeg = 1 + (J 0 5).toNatClampNeg := by rw [r1, e20]; omega
    rw [ex]
    refine ⟨rfl, rfl, rfl, rfl, fun a j q => (by rw [pv_u_o _ (by omega), pv_u_o _ (by omega)]), XT.bo hk hn b ?_ (fun _ => ?_) (fun j g1 g2 => ?_)⟩
    · rw [pv_u_o _ (by omega)]; exact r1
    · rw [pv_u_eq, if_pos rfl]
    · rw [pv_u_o _ (by omega), pv_u_o _ (by omega)]

set_option maxRecDepth 100000 in
set_option maxHeartbeats 4000000 in
theorem c_X3_ran_9 {G : pv_G} {d : Nat} {b : Int32} {x : Nat} {y a : Int32} {J : pv_I} {t : pv_T} {I : pv_I} {L : pv_L} {Rf : pv_R} (hT : sh_ok t) (hx : 90 ≤ x) (hs : t.1 x = some (.inr 9)) (hb : Rf x 4 = some 20) (f1 : I x 1 = y) (f2 : I x 2 = a) (hk : XT J I) (hn : XN 90 J)  : pv_Mt G mX3_ran d 0 0 [.ref x, .int b] t I L Rf (fun v t1 I1 L1 R1 => v = none ∧ t1 = t ∧ L1 = L ∧ R1 = Rf ∧ (∀ a j, a ≠ 20 → I1 a j = I a j) ∧ XT (w_body J b) I1) := by
  refine pv_mt mgX3_ran.2.2.2.2.2 [.ref x, .int b] rfl (Nat.le_of_ble_eq_true rfl) ?_
  refine pv_aload_0 (pc := 0) dX3_ran_0 ?_
  refine pv_getR (pc := 1) dX3_ran_1 fg_X3_22_9 rfl (by omega) hs hb ?_
  refine pv_iconst (pc := 4) (v := 0) dX3_ran_4 (by decide) ?_
  refine pv_dup2 (pc := 5) dX3_ran_5 rfl rfl ?_
  refine pv_ialoadj (pc := 6) dX3_ran_6 (sx_20 hT) (j := 0) (by decide) (by unfold vp_in; decide) ?_
  refine pv_iconst (pc := 7) (v := 1) dX3_ran_7 (by decide) ?_
  refine pv_iadd (pc := 8) dX3_ran_8 ?_
  refine pv_iastorej (pc := 9) dX3_ran_9 (by decide) (sx_20 hT) (j := 0) (by decide) (by unfold vp_in; decide) ?_
  refine pv_aload_0 (pc := 10) dX3_ran_10 ?_
  refine pv_getR (pc := 11) dX3_ran_11 fg_X3_22_9 rfl (by omega) hs hb ?_
  refine pv_iconst (pc := 14) (v := 0) dX3_ran_14 (by decide) ?_
  refine pv_ialoadj (pc := 15) dX3_ran_15 (sx_20 hT) (j := 0) (by decide) (by unfold vp_in; decide) ?_
  refine pv_if_le (pc := 16) (tgt := 45) dX3_ran_16 (by decide) (fun h16 => absurd h16 (fun q => by have e20 := hk.1; have q2 : ¬ 0 < (I 20 0 + 1).toInt := (by have z : ¬ 0 < I 20 0 + 1 := q; rw [i_lt, Int32.toInt_zero] at z; exact z); rw [e20, x_n1 hn] at q2; have := hn.1; omega)) (fun h16 => ?_)
  refine pv_aload_0 (pc := 19) dX3_ran_19 ?_
  refine pv_getR (pc := 20) dX3_ran_20 fg_X3_22_9 rfl (by omega) hs hb ?_
  refine pv_iconst (pc := 23) (v := 0) dX3_ran_23 (by decide) ?_
  refine pv_ialoadj (pc := 24) dX3_ran_24 (sx_20 hT) (j := 0) (by decide) (by unfold vp_in; decide) ?_
  refine pv_aload_0 (pc := 25) dX3_ran_25 ?_
  refine pv_getR (pc := 26) dX3_ran_26 fg_X3_22_9 rfl (by omega) hs hb ?_
  refine pv_alen (pc := 29) dX3_ran_29 (sx_20 hT) rfl ?_
  refine pv_icmp_ge (pc := 30) (tgt := 45) dX3_ran_30 (by decide) (fun h30 => ?_) (fun h30 => ?_)
  · refine pv_vret (pc := 45) dX3_ran_45 rfl ?_
    have e20 : I 20 0 = J 0 5 := hk.1
    have n1 := x_n1 (x := J 0 5) hn
    have r1 : pv_u I 20 0 (I 20 0 + 1) 20 0 = I 20 0 + 1 := by rw [pv_u_eq, if_pos rfl]
    have f30 : ¬ I 20 0 + 1 < Int32.ofNat 21 := h30
    rw [i_lt, e20, n1, show (Int32.ofNat 21).toInt = 21 by decide] at f30
    exact ⟨rfl, rfl, rfl, rfl, fun a j q => (by rw [pv_u_o _ (by omega)]), XT.bo hk hn b r1 (fun q => absurd q (by omega)) (fun j g1 g2 => (by rw [pv_u_o _ (by omega)]))⟩
  · refine pv_aload_0 (pc := 33) dX3_ran_33 ?_
    refine pv_getR (pc := 34) dX3_ran_34 fg_X3_22_9 rfl (by omega) hs hb ?_
    refine pv_aload_0 (pc := 37) dX3_ran_37 ?_
    refine pv_getR (pc := 38) dX3_ran_38 fg_X3_22_9 rfl (by omega) hs hb ?_
    refine pv_iconst (pc := 41) (v := 0) dX3_ran_41 (by decide) ?_
    refine pv_ialoadj (pc := 42) dX3_ran_42 (sx_20 hT) (j := 0) (by decide) (by unfold vp_in; decide) ?_
    refine pv_iload_1 (pc := 43) dX3_ran_43 ?_
    refine pv_iastorej (pc := 44) dX3_ran_44 (by decide) (sx_20 hT) rfl (x_rin hk hn h30) ?_
    refine pv_vret (pc := 45) dX3_ran_45 rfl ?_
    have e20 : I 20 0 = J 0 5 := hk.1
    have n1 := x_n1 (x := J 0 5) hn
    have r1 : pv_u I 20 0 (I 20 0 + 1) 20 0 = I 20 0 + 1 := by rw [pv_u_eq, if_pos rfl]
    have f30 : I 20 0 + 1 < Int32.ofNat 21 := (by first | exact h30 | exact Classical.not_not.mp h30)
    rw [i_lt, e20, n1, show (Int32.ofNat 21).toInt = 21 by decide] at f30
    have hl := i_lit (J 0 5)
    have hl2 := i_lit (J 0 5 + 1)
    have hn2 := hn.1
    have ex : (pv_u I 20 0 (I 20 0 + 1) 20 0).toNatClampNeg = 1 + (J 0 5).toNatClampNeg := by rw [r1, e20]; omega
    rw [ex]
    refine ⟨rfl, rfl, rfl, rfl, fun a j q => (by rw [pv_u_o _ (by omega), pv_u_o _ (by omega)]), XT.bo hk hn b ?_ (fun _ => ?_) (fun j g1 g2 => ?_)⟩
    · rw [pv_u_o _ (by omega)]; exact r1
    · rw [pv_u_eq, if_pos rfl]
    · rw [pv_u_o _ (by omega), pv_u_o _ (by omega)]

set_option maxRecDepth 100000 in
set_option maxHeartbeats 4000000 in
theorem c_X3_ran_10 {G : pv_G} {d : Nat} {b : Int32} {x : Nat} {y a : Int32} {J : pv_I} {t : pv_T} {I : pv_I} {L : pv_L} {Rf : pv_R} (hT : sh_ok t) (hx : 90 ≤ x) (hs : t.1 x = some (.inr 10)) (hb : Rf x 4 = some 20) (f1 : I x 1 = y) (f2 : I x 2 = a) (hk : XT J I) (hn : XN 90 J)  : pv_Mt G mX3_ran d 0 0 [.ref x, .int b] t I L Rf (fun v t1 I1 L1 R1 => v = none ∧ t1 = t ∧ L1 = L ∧ R1 = Rf ∧ (∀ a j, a ≠ 20 → I1 a j = I a j) ∧ XT (w_body J b) I1) := by
  refine pv_mt mgX3_ran.2.2.2.2.2 [.ref x, .int b] rfl (Nat.le_of_ble_eq_true rfl) ?_
  refine pv_aload_0 (pc := 0) dX3_ran_0 ?_
  refine pv_getR (pc := 1) dX3_ran_1 fg_X3_22_10 rfl (by omega) hs hb ?_
  refine pv_iconst (pc := 4) (v := 0) dX3_ran_4 (by decide) ?_
  refine pv_dup2 (pc := 5) dX3_ran_5 rfl rfl ?_
  refine pv_ialoadj (pc := 6) dX3_ran_6 (sx_20 hT) (j := 0) (by decide) (by unfold vp_in; decide) ?_
  refine pv_iconst (pc := 7) (v := 1) dX3_ran_7 (by decide) ?_
  refine pv_iadd (pc := 8) dX3_ran_8 ?_
  refine pv_iastorej (pc := 9) dX3_ran_9 (by decide) (sx_20 hT) (j := 0) (by decide) (by unfold vp_in; decide) ?_
  refine pv_aload_0 (pc := 10) dX3_ran_10 ?_
  refine pv_getR (pc := 11) dX3_ran_11 fg_X3_22_10 rfl (by omega) hs hb ?_
  refine pv_iconst (pc := 14) (v := 0) dX3_ran_14 (by decide) ?_
  refine pv_ialoadj (pc := 15) dX3_ran_15 (sx_20 hT) (j := 0) (by decide) (by unfold vp_in; decide) ?_
  refine pv_if_le (pc := 16) (tgt := 45) dX3_ran_16 (by decide) (fun h16 => absurd h16 (fun q => by have e20 := hk.1; have q2 : ¬ 0 < (I 20 0 + 1).toInt := (by have z : ¬ 0 < I 20 0 + 1 := q; rw [i_lt, Int32.toInt_zero] at z; exact z); rw [e20, x_n1 hn] at q2; have := hn.1; omega)) (fun h16 => ?_)
  refine pv_aload_0 (pc := 19) dX3_ran_19 ?_
  refine pv_getR (pc := 20) dX3_ran_20 fg_X3_22_10 rfl (by omega) hs hb ?_
  refine pv_iconst (pc := 23) (v := 0) dX3_ran_23 (by decide) ?_
  refine pv_ialoadj (pc := 24) dX3_ran_24 (sx_20 hT) (j := 0) (by decide) (by unfold vp_in; decide) ?_
  refine pv_aload_0 (pc := 25) dX3_ran_25 ?_
  refine pv_getR (pc := 26) dX3_ran_26 fg_X3_22_10 rfl (by omega) hs hb ?_
  refine pv_alen (pc := 29) dX3_ran_29 (sx_20 hT) rfl ?_
  refine pv_icmp_ge (pc := 30) (tgt := 45) dX3_ran_30 (by decide) (fun h30 => ?_) (fun h30 => ?_)
  · refine pv_vret (pc := 45) dX3_ran_45 rfl ?_
    have e20 : I 20 0 = J 0 5 := hk.1
    have n1 := x_n1 (x := J 0 5) hn
    have r1 : pv_u I 20 0 (I 20 0 + 1) 20 0 = I 20 0 + 1 := by rw [pv_u_eq, if_pos rfl]
    have f30 : ¬ I 20 0 + 1 < Int32.ofNat 21 := h30
    rw [i_lt, e20, n1, show (Int32.ofNat 21).toInt = 21 by decide] at f30
    exact ⟨rfl, rfl, rfl, rfl, fun a j q => (by rw [pv_u_o _ (by omega)]), XT.bo hk hn b r1 (fun q => absurd q (by omega)) (fun j g1 g2 => (by rw [pv_u_o _ (by omega)]))⟩
  · refine pv_aload_0 (pc := 33) dX3_ran_33 ?_
    refine pv_getR (pc := 34) dX3_ran_34 fg_X3_22_10 rfl (by omega) hs hb ?_
    refine pv_aload_0 (pc := 37) dX3_ran_37 ?_
    refine pv_getR (pc := 38) dX3_ran_38 fg_X3_22_10 rfl (by omega) hs hb ?_
    refine pv_iconst (pc := 41) (v := 0) dX3_ran_41 (by decide) ?_
    refine pv_ialoadj (pc := 42) dX3_ran_42 (sx_20 hT) (j := 0) (by decide) (by unfold vp_in; decide) ?_
    refine pv_iload_1 (pc := 43) dX3_ran_43 ?_
    refine pv_iastorej (pc := 44) dX3_ran_44 (by decide) (sx_20 hT) rfl (x_rin hk hn h30) ?_
    refine pv_vret (pc := 45) dX3_ran_45 rfl ?_
    have e20 : I 20 0 = J 0 5 := hk.1
    have n1 := x_n1 (x := J 0 5) hn
    have r1 : pv_u I 20 0 (I 20 0 + 1) 20 0 = I 20 0 + 1 := by rw [pv_u_eq, if_pos rfl]
    have f30 : I 20 0 + 1 < Int32.ofNat 21 := (by first | exact h30 | exact Classical.not_not.mp h30)
    rw [i_lt, e20, n1, show (Int32.ofNat 21).toInt = 21 by decide] at f30
    have hl := i_lit (J 0 5)
    have hl2 := i_lit (J 0 5 + 1)
    have hn2 := hn.1
    have ex : (pv_u I 20 0 (I 20 0 + 1) 20 0).toNatClampNeg = 1 + (J 0 5).toNatClampNeg := by rw [r1, e20]; omega
    rw [ex]
    refine ⟨rfl, rfl, rfl, rfl, fun a j q => (by rw [pv_u_o _ (by omega), pv_u_o _ (by omega)]), XT.bo hk hn b ?_ (fun _ => ?_) (fun j g1 g2 => ?_)⟩
    · rw [pv_u_o _ (by omega)]; exact r1
    · rw [pv_u_eq, if_pos rfl]
    · rw [pv_u_o _ (by omega), pv_u_o _ (by omega)]

set_option maxRecDepth 100000 in
set_option maxHeartbeats 4000000 in
theorem c_X3_calls_0 {G : pv_G} {d : Nat} {x : Nat} {y a w : Int32} {J : pv_I} {t : pv_T} {I : pv_I} {L : pv_L} {Rf : pv_R} (hT : sh_ok t) (hx : 90 ≤ x) (hs : t.1 x = some (.inr 0)) (hb : Rf x 4 = some 20) (f1 : I x 1 = y) (f2 : I x 2 = a) (hk : XT J I) (hn : XN 80 J) (hd : 2 ≤ d) : pv_Mt G mX3_calls d 0 0 [.ref x, .int w] t I L Rf (fun v t1 I1 L1 R1 => v = some (.int (w + y)) ∧ t1 = t ∧ L1 = L ∧ R1 = Rf ∧ (∀ a j, a ≠ 20 → I1 a j = I a j) ∧ XT (w_body J 10) I1) := by
  refine pv_mt mgX3_calls.2.2.2.2.2 [.ref x, .int w] rfl (Nat.le_of_ble_eq_true rfl) ?_
  have hI : ∀ a j, a ≠ 20 → I a j = I a j := fun _ _ _ => rfl
  refine pv_aload_0 (pc := 0) dX3_calls_0 ?_
  refine pv_bipush (pc := 1) (v := 10) dX3_calls_1 (by decide) ?_
  refine pv_callUq (pc := 3) dX3_calls_3 mgX3_ran lu_X3_26_0 (by omega) hs (by omega) (c_X3_ran_0 hT hx hs hb f1 f2 hk (hn.mo (by omega))) rfl rfl (by decide) (fun v t I L Rf hq => ?_)
  obtain ⟨rfl, rfl, rfl, rfl, hI2, hk⟩ := hq
  have f1 := (hI2 x 1 (by omega)).trans f1
  have f2 := (hI2 x 2 (by omega)).trans f2
  have hI := fun (a j : Nat) (q : a ≠ 20) => (hI2 a j q).trans (hI a j q)
  have hn := hn.bo 10 (by omega)
  refine pv_iload_1 (pc := 6) dX3_calls_6 ?_
  refine pv_aload_0 (pc := 7) dX3_calls_7 ?_
  refine pv_getI (pc := 8) dX3_calls_8 fg_X3_13_0 rfl (by omega) hs ?_
  refine pv_iadd (pc := 11) dX3_calls_11 ?_
  refine pv_iret (pc := 12) dX3_calls_12 rfl rfl ?_
  refine ⟨?_, rfl, rfl, rfl, hI, hk⟩
  first | rfl | (rw [f1]; done) | (rw [f2]; done) | (rw [f1, f2]; done)

set_option maxRecDepth 100000 in
set_option maxHeartbeats 4000000 in
theorem c_X0_calls_0 {G : pv_G} {d : Nat} {x : Nat} {y a w : Int32} {J : pv_I} {t : pv_T} {I : pv_I} {L : pv_L} {Rf : pv_R} (hT : sh_ok t) (hx : 90 ≤ x) (hs : t.1 x = some (.inr 0)) (hb : Rf x 4 = some 20) (f1 : I x 1 = y) (f2 : I x 2 = a) (hk : XT J I) (hn : XN 78 J) (hd : 4 ≤ d) : pv_Mt G mX0_calls d 0 0 [.ref x, .int w] t I L Rf (fun v t1 I1 L1 R1 => v = some (.int ((w + y) * 2)) ∧ t1 = t ∧ L1 = L ∧ R1 = Rf ∧ (∀ a j, a ≠ 20 → I1 a j = I a j) ∧ XT (w_body (w_body J 60) 10) I1) := by
  refine pv_mt mgX0_calls.2.2.2.2.2 [.ref x, .int w] rfl (Nat.le_of_ble_eq_true rfl) ?_
  have hI : ∀ a j, a ≠ 20 → I a j = I a j := fun _ _ _ => rfl
  refine pv_aload_0 (pc := 0) dX0_calls_0 ?_
  refine pv_bipush (pc := 1) (v := 60) dX0_calls_1 (by decide) ?_
  refine pv_callUq (pc := 3) dX0_calls_3 mgX3_ran lu_X0_7_0 (by omega) hs (by omega) (c_X3_ran_0 hT hx hs hb f1 f2 hk (hn.mo (by omega))) rfl rfl (by decide) (fun v t I L Rf hq => ?_)
  obtain ⟨rfl, rfl, rfl, rfl, hI2, hk⟩ := hq
  have f1 := (hI2 x 1 (by omega)).trans f1
  have f2 := (hI2 x 2 (by omega)).trans f2
  have hI := fun (a j : Nat) (q : a ≠ 20) => (hI2 a j q).trans (hI a j q)
  have hn := hn.bo 60 (by omega)
  refine pv_aload_0 (pc := 6) dX0_calls_6 ?_
  refine pv_iload_1 (pc := 7) dX0_calls_7 ?_
  refine pv_callSXq (pc := 8) dX0_calls_8 mgX3_calls lsx_X0_13 (by omega) hs (by omega) (c_X3_calls_0 hT hx hs hb f1 f2 hk (hn.mo (by omega)) (by omega)) rfl rfl (by decide) (fun v t I L Rf hq => ?_)
  obtain ⟨rfl, rfl, rfl, rfl, hI2, hk⟩ := hq
  have f1 := (hI2 x 1 (by omega)).trans f1
  have f2 := (hI2 x 2 (by omega)).trans f2
  have hI := fun (a j : Nat) (q : a ≠ 20) => (hI2 a j q).trans (hI a j q)
  have hn := hn.bo 10 (by omega)
  refine pv_iconst (pc := 11) (v := 2) dX0_calls_11 (by decide) ?_
  refine pv_imul (pc := 12) dX0_calls_12 ?_
  refine pv_iret (pc := 13) dX0_calls_13 rfl rfl ?_
  refine ⟨?_, rfl, rfl, rfl, hI, hk⟩
  first | rfl | (rw [f1]; done) | (rw [f2]; done) | (rw [f1, f2]; done)

theorem w_cb_5 (J : pv_I) : w_calB J 5 = w_body (w_body J 60) 10 := by unfold w_calB; simp [s_isC]
theorem c_calls_0 {G : pv_G} {d : Nat} {x : Nat} {y a w : Int32} {J : pv_I} {t : pv_T} {I : pv_I} {L : pv_L} {Rf : pv_R} (hT : sh_ok t) (hx : 90 ≤ x) (hs : t.1 x = some (.inr 0)) (hb : Rf x 4 = some 20) (f1 : I x 1 = y) (f2 : I x 2 = a) (hk : XT J I) (hn : XN 70 J) (hd : 4 ≤ d) : pv_Mt G mX0_calls d 0 0 [.ref x, .int w] t I L Rf (fun v t1 I1 L1 R1 => v = some (.int ((w + y) * 2)) ∧ t1 = t ∧ L1 = L ∧ R1 = Rf ∧ (∀ a j, a ≠ 20 → I1 a j = I a j) ∧ XT (w_calB (J) 5) I1) := by
  rw [w_cb_5]
  exact c_X0_calls_0 hT hx hs hb f1 f2 hk (hn.mo (by omega)) (by omega)
set_option maxRecDepth 100000 in
set_option maxHeartbeats 4000000 in
theorem c_X3_steps_0 {G : pv_G} {d : Nat} {x : Nat} {y a w : Int32} {J : pv_I} {t : pv_T} {I : pv_I} {L : pv_L} {Rf : pv_R} (hT : sh_ok t) (hx : 90 ≤ x) (hs : t.1 x = some (.inr 0)) (hb : Rf x 4 = some 20) (f1 : I x 1 = y) (f2 : I x 2 = a) (hk : XT J I) (hn : XN 60 J) (hd : 6 ≤ d) : pv_Mt G mX3_steps d 0 0 [.ref x, .int w] t I L Rf (fun v t1 I1 L1 R1 => v = some (.int (((w + y) * 2) * 2)) ∧ t1 = t ∧ L1 = L ∧ R1 = Rf ∧ (∀ a j, a ≠ 20 → I1 a j = I a j) ∧ XT (w_calB (w_body J 11) 5) I1) := by
  refine pv_mt mgX3_steps.2.2.2.2.2 [.ref x, .int w] rfl (Nat.le_of_ble_eq_true rfl) ?_
  have hI : ∀ a j, a ≠ 20 → I a j = I a j := fun _ _ _ => rfl
  refine pv_aload_0 (pc := 0) dX3_steps_0 ?_
  refine pv_bipush (pc := 1) (v := 11) dX3_steps_1 (by decide) ?_
  refine pv_callUq (pc := 3) dX3_steps_3 mgX3_ran lu_X3_26_0 (by omega) hs (by omega) (c_X3_ran_0 hT hx hs hb f1 f2 hk (hn.mo (by omega))) rfl rfl (by decide) (fun v t I L Rf hq => ?_)
  obtain ⟨rfl, rfl, rfl, rfl, hI2, hk⟩ := hq
  have f1 := (hI2 x 1 (by omega)).trans f1
  have f2 := (hI2 x 2 (by omega)).trans f2
  have hI := fun (a j : Nat) (q : a ≠ 20) => (hI2 a j q).trans (hI a j q)
  have hn := hn.bo 11 (by omega)
  refine pv_aload_0 (pc := 6) dX3_steps_6 ?_
  refine pv_iload_1 (pc := 7) dX3_steps_7 ?_
  refine pv_callUq (pc := 8) dX3_steps_8 mgX0_calls lu_X3_30_0 (by omega) hs (by omega) (c_calls_0 hT hx hs hb f1 f2 hk (hn.mo (by omega)) (by omega)) rfl rfl (by decide) (fun v t I L Rf hq => ?_)
  obtain ⟨rfl, rfl, rfl, rfl, hI2, hk⟩ := hq
  have f1 := (hI2 x 1 (by omega)).trans f1
  have f2 := (hI2 x 2 (by omega)).trans f2
  have hI := fun (a j : Nat) (q : a ≠ 20) => (hI2 a j q).trans (hI a j q)
  have hn := hn.cal 5 (by omega)
  refine pv_iconst (pc := 11) (v := 2) dX3_steps_11 (by decide) ?_
  refine pv_imul (pc := 12) dX3_steps_12 ?_
  refine pv_iret (pc := 13) dX3_steps_13 rfl rfl ?_
  refine ⟨?_, rfl, rfl, rfl, hI, hk⟩
  first | rfl | (rw [f1]; done) | (rw [f2]; done) | (rw [f1, f2]; done)

theorem w_sb_5 (J : pv_I) : w_stB J 5 = w_calB (w_body J 11) 5 := by unfold w_stB; simp
theorem c_steps_0 {G : pv_G} {d : Nat} {x : Nat} {y a w : Int32} {J : pv_I} {t : pv_T} {I : pv_I} {L : pv_L} {Rf : pv_R} (hT : sh_ok t) (hx : 90 ≤ x) (hs : t.1 x = some (.inr 0)) (hb : Rf x 4 = some 20) (f1 : I x 1 = y) (f2 : I x 2 = a) (hk : XT J I) (hn : XN 50 J) (hd : 8 ≤ d) : pv_Mt G mX3_steps d 0 0 [.ref x, .int w] t I L Rf (fun v t1 I1 L1 R1 => v = some (.int (((w + y) * 2) * 2)) ∧ t1 = t ∧ L1 = L ∧ R1 = Rf ∧ (∀ a j, a ≠ 20 → I1 a j = I a j) ∧ XT (w_stB J 5) I1) := by
  rw [w_sb_5]
  exact c_X3_steps_0 hT hx hs hb f1 f2 hk (hn.mo (by omega)) (by omega)
set_option maxRecDepth 100000 in
set_option maxHeartbeats 4000000 in
theorem c_X3_knots_0 {G : pv_G} {d : Nat} {x : Nat} {y a w : Int32} {J : pv_I} {t : pv_T} {I : pv_I} {L : pv_L} {Rf : pv_R} (hT : sh_ok t) (hx : 90 ≤ x) (hs : t.1 x = some (.inr 0)) (hb : Rf x 4 = some 20) (f1 : I x 1 = y) (f2 : I x 2 = a) (hk : XT J I) (hn : XN 40 J) (hd : 10 ≤ d) : pv_Mt G mX3_knots d 0 0 [.ref x, .int w] t I L Rf (fun v t1 I1 L1 R1 => v = some (.int ((((w + y) * 2) * 2) ^^^ (((w - a) + y) * 2))) ∧ t1 = t ∧ L1 = L ∧ R1 = Rf ∧ (∀ a j, a ≠ 20 → I1 a j = I a j) ∧ XT (w_calB (w_stB (w_body J 12) 5) 5) I1) := by
  refine pv_mt mgX3_knots.2.2.2.2.2 [.ref x, .int w] rfl (Nat.le_of_ble_eq_true rfl) ?_
  have hI : ∀ a j, a ≠ 20 → I a j = I a j := fun _ _ _ => rfl
  refine pv_aload_0 (pc := 0) dX3_knots_0 ?_
  refine pv_bipush (pc := 1) (v := 12) dX3_knots_1 (by decide) ?_
  refine pv_callUq (pc := 3) dX3_knots_3 mgX3_ran lu_X3_26_0 (by omega) hs (by omega) (c_X3_ran_0 hT hx hs hb f1 f2 hk (hn.mo (by omega))) rfl rfl (by decide) (fun v t I L Rf hq => ?_)
  obtain ⟨rfl, rfl, rfl, rfl, hI2, hk⟩ := hq
  have f1 := (hI2 x 1 (by omega)).trans f1
  have f2 := (hI2 x 2 (by omega)).trans f2
  have hI := fun (a j : Nat) (q : a ≠ 20) => (hI2 a j q).trans (hI a j q)
  have hn := hn.bo 12 (by omega)
  refine pv_aload_0 (pc := 6) dX3_knots_6 ?_
  refine pv_iload_1 (pc := 7) dX3_knots_7 ?_
  refine pv_callUq (pc := 8) dX3_knots_8 mgX3_steps lu_X3_34_0 (by omega) hs (by omega) (c_steps_0 hT hx hs hb f1 f2 hk (hn.mo (by omega)) (by omega)) rfl rfl (by decide) (fun v t I L Rf hq => ?_)
  obtain ⟨rfl, rfl, rfl, rfl, hI2, hk⟩ := hq
  have f1 := (hI2 x 1 (by omega)).trans f1
  have f2 := (hI2 x 2 (by omega)).trans f2
  have hI := fun (a j : Nat) (q : a ≠ 20) => (hI2 a j q).trans (hI a j q)
  have hn := hn.st 5 (by omega)
  refine pv_aload_0 (pc := 11) dX3_knots_11 ?_
  refine pv_iload_1 (pc := 12) dX3_knots_12 ?_
  refine pv_aload_0 (pc := 13) dX3_knots_13 ?_
  refine pv_getI (pc := 14) dX3_knots_14 fg_X3_16_0 rfl (by omega) hs ?_
  refine pv_isub (pc := 17) dX3_knots_17 ?_
  rw [f2]
  refine pv_callUq (pc := 18) dX3_knots_18 mgX0_calls lu_X3_30_0 (by omega) hs (by omega) (c_calls_0 hT hx hs hb f1 f2 hk (hn.mo (by omega)) (by omega)) rfl rfl (Nat.le_of_ble_eq_true rfl) (fun v t I L Rf hq => ?_)
  obtain ⟨rfl, rfl, rfl, rfl, hI2, hk⟩ := hq
  have f1 := (hI2 x 1 (by omega)).trans f1
  have f2 := (hI2 x 2 (by omega)).trans f2
  have hI := fun (a j : Nat) (q : a ≠ 20) => (hI2 a j q).trans (hI a j q)
  have hn := hn.cal 5 (by omega)
  refine pv_ixor (pc := 21) dX3_knots_21 ?_
  refine pv_iret (pc := 22) dX3_knots_22 rfl rfl ?_
  refine ⟨?_, rfl, rfl, rfl, hI, hk⟩
  first | rfl | (rw [f1]; done) | (rw [f2]; done) | (rw [f1, f2]; done)

set_option maxRecDepth 100000 in
set_option maxHeartbeats 4000000 in
theorem c_X9_knots_0 {G : pv_G} {d : Nat} {x : Nat} {y a w : Int32} {J : pv_I} {t : pv_T} {I : pv_I} {L : pv_L} {Rf : pv_R} (hT : sh_ok t) (hx : 90 ≤ x) (hs : t.1 x = some (.inr 0)) (hb : Rf x 4 = some 20) (f1 : I x 1 = y) (f2 : I x 2 = a) (hk : XT J I) (hn : XN 38 J) (hd : 12 ≤ d) : pv_Mt G mX9_knots d 0 0 [.ref x, .int w] t I L Rf (fun v t1 I1 L1 R1 => v = some (.int (-((((w + y) * 2) * 2) ^^^ (((w - a) + y) * 2)))) ∧ t1 = t ∧ L1 = L ∧ R1 = Rf ∧ (∀ a j, a ≠ 20 → I1 a j = I a j) ∧ XT (w_calB (w_stB (w_body (w_body J 50) 12) 5) 5) I1) := by
  refine pv_mt mgX9_knots.2.2.2.2.2 [.ref x, .int w] rfl (Nat.le_of_ble_eq_true rfl) ?_
  have hI : ∀ a j, a ≠ 20 → I a j = I a j := fun _ _ _ => rfl
  refine pv_aload_0 (pc := 0) dX9_knots_0 ?_
  refine pv_bipush (pc := 1) (v := 50) dX9_knots_1 (by decide) ?_
  refine pv_callUq (pc := 3) dX9_knots_3 mgX3_ran lu_X9_19_0 (by omega) hs (by omega) (c_X3_ran_0 hT hx hs hb f1 f2 hk (hn.mo (by omega))) rfl rfl (by decide) (fun v t I L Rf hq => ?_)
  obtain ⟨rfl, rfl, rfl, rfl, hI2, hk⟩ := hq
  have f1 := (hI2 x 1 (by omega)).trans f1
  have f2 := (hI2 x 2 (by omega)).trans f2
  have hI := fun (a j : Nat) (q : a ≠ 20) => (hI2 a j q).trans (hI a j q)
  have hn := hn.bo 50 (by omega)
  refine pv_aload_0 (pc := 6) dX9_knots_6 ?_
  refine pv_iload_1 (pc := 7) dX9_knots_7 ?_
  refine pv_callSUq (pc := 8) dX9_knots_8 mgX3_knots lsu_X9_22 (by omega) hs (by omega) (c_X3_knots_0 hT hx hs hb f1 f2 hk (hn.mo (by omega)) (by omega)) rfl rfl (by decide) (fun v t I L Rf hq => ?_)
  obtain ⟨rfl, rfl, rfl, rfl, hI2, hk⟩ := hq
  have f1 := (hI2 x 1 (by omega)).trans f1
  have f2 := (hI2 x 2 (by omega)).trans f2
  have hI := fun (a j : Nat) (q : a ≠ 20) => (hI2 a j q).trans (hI a j q)
  have hn := hn
  refine pv_ineg (pc := 11) dX9_knots_11 ?_
  refine pv_iret (pc := 12) dX9_knots_12 rfl rfl ?_
  refine ⟨?_, rfl, rfl, rfl, hI, hk⟩
  first | rfl | (rw [f1]; done) | (rw [f2]; done) | (rw [f1, f2]; done)

theorem w_kb_5 (J : pv_I) : w_knB J 5 = w_calB (w_stB (w_body (w_body J 50) 12) 5) 5 := by unfold w_knB w_knC; simp [s_isT]
theorem c_knots_0 {G : pv_G} {d : Nat} {x : Nat} {y a w : Int32} {J : pv_I} {t : pv_T} {I : pv_I} {L : pv_L} {Rf : pv_R} (hT : sh_ok t) (hx : 90 ≤ x) (hs : t.1 x = some (.inr 0)) (hb : Rf x 4 = some 20) (f1 : I x 1 = y) (f2 : I x 2 = a) (hk : XT J I) (hn : XN 30 J) (hd : 14 ≤ d) : pv_Mt G mX9_knots d 0 0 [.ref x, .int w] t I L Rf (fun v t1 I1 L1 R1 => v = some (.int (-((((w + y) * 2) * 2) ^^^ (((w - a) + y) * 2)))) ∧ t1 = t ∧ L1 = L ∧ R1 = Rf ∧ (∀ a j, a ≠ 20 → I1 a j = I a j) ∧ XT (w_knB J 5) I1) := by
  rw [w_kb_5]
  exact c_X9_knots_0 hT hx hs hb f1 f2 hk (hn.mo (by omega)) (by omega)
set_option maxRecDepth 100000 in
set_option maxHeartbeats 4000000 in
theorem c_X3_calls_1 {G : pv_G} {d : Nat} {x : Nat} {y a w : Int32} {J : pv_I} {t : pv_T} {I : pv_I} {L : pv_L} {Rf : pv_R} (hT : sh_ok t) (hx : 90 ≤ x) (hs : t.1 x = some (.inr 1)) (hb : Rf x 4 = some 20) (f1 : I x 1 = y) (f2 : I x 2 = a) (hk : XT J I) (hn : XN 80 J) (hd : 2 ≤ d) : pv_Mt G mX3_calls d 0 0 [.ref x, .int w] t I L Rf (fun v t1 I1 L1 R1 => v = some (.int (w + y)) ∧ t1 = t ∧ L1 = L ∧ R1 = Rf ∧ (∀ a j, a ≠ 20 → I1 a j = I a j) ∧ XT (w_body J 10) I1) := by
  refine pv_mt mgX3_calls.2.2.2.2.2 [.ref x, .int w] rfl (Nat.le_of_ble_eq_true rfl) ?_
  have hI : ∀ a j, a ≠ 20 → I a j = I a j := fun _ _ _ => rfl
  refine pv_aload_0 (pc := 0) dX3_calls_0 ?_
  refine pv_bipush (pc := 1) (v := 10) dX3_calls_1 (by decide) ?_
  refine pv_callUq (pc := 3) dX3_calls_3 mgX3_ran lu_X3_26_1 (by omega) hs (by omega) (c_X3_ran_1 hT hx hs hb f1 f2 hk (hn.mo (by omega))) rfl rfl (by decide) (fun v t I L Rf hq => ?_)
  obtain ⟨rfl, rfl, rfl, rfl, hI2, hk⟩ := hq
  have f1 := (hI2 x 1 (by omega)).trans f1
  have f2 := (hI2 x 2 (by omega)).trans f2
  have hI := fun (a j : Nat) (q : a ≠ 20) => (hI2 a j q).trans (hI a j q)
  have hn := hn.bo 10 (by omega)
  refine pv_iload_1 (pc := 6) dX3_calls_6 ?_
  refine pv_aload_0 (pc := 7) dX3_calls_7 ?_
  refine pv_getI (pc := 8) dX3_calls_8 fg_X3_13_1 rfl (by omega) hs ?_
  refine pv_iadd (pc := 11) dX3_calls_11 ?_
  refine pv_iret (pc := 12) dX3_calls_12 rfl rfl ?_
  refine ⟨?_, rfl, rfl, rfl, hI, hk⟩
  first | rfl | (rw [f1]; done) | (rw [f2]; done) | (rw [f1, f2]; done)

set_option maxRecDepth 100000 in
set_option maxHeartbeats 4000000 in
theorem c_X1_calls_1 {G : pv_G} {d : Nat} {x : Nat} {y a w : Int32} {J : pv_I} {t : pv_T} {I : pv_I} {L : pv_L} {Rf : pv_R} (hT : sh_ok t) (hx : 90 ≤ x) (hs : t.1 x = some (.inr 1)) (hb : Rf x 4 = some 20) (f1 : I x 1 = y) (f2 : I x 2 = a) (hk : XT J I) (hn : XN 78 J) (hd : 4 ≤ d) : pv_Mt G mX1_calls d 0 0 [.ref x, .int w] t I L Rf (fun v t1 I1 L1 R1 => v = some (.int (w + y + a)) ∧ t1 = t ∧ L1 = L ∧ R1 = Rf ∧ (∀ a j, a ≠ 20 → I1 a j = I a j) ∧ XT (w_body (w_body J 20) 10) I1) := by
  refine pv_mt mgX1_calls.2.2.2.2.2 [.ref x, .int w] rfl (Nat.le_of_ble_eq_true rfl) ?_
  have hI : ∀ a j, a ≠ 20 → I a j = I a j := fun _ _ _ => rfl
  refine pv_aload_0 (pc := 0) dX1_calls_0 ?_
  refine pv_bipush (pc := 1) (v := 20) dX1_calls_1 (by decide) ?_
  refine pv_callUq (pc := 3) dX1_calls_3 mgX3_ran lu_X1_19_1 (by omega) hs (by omega) (c_X3_ran_1 hT hx hs hb f1 f2 hk (hn.mo (by omega))) rfl rfl (by decide) (fun v t I L Rf hq => ?_)
  obtain ⟨rfl, rfl, rfl, rfl, hI2, hk⟩ := hq
  have f1 := (hI2 x 1 (by omega)).trans f1
  have f2 := (hI2 x 2 (by omega)).trans f2
  have hI := fun (a j : Nat) (q : a ≠ 20) => (hI2 a j q).trans (hI a j q)
  have hn := hn.bo 20 (by omega)
  refine pv_aload_0 (pc := 6) dX1_calls_6 ?_
  refine pv_iload_1 (pc := 7) dX1_calls_7 ?_
  refine pv_callSUq (pc := 8) dX1_calls_8 mgX3_calls lsu_X1_23 (by omega) hs (by omega) (c_X3_calls_1 hT hx hs hb f1 f2 hk (hn.mo (by omega)) (by omega)) rfl rfl (by decide) (fun v t I L Rf hq => ?_)
  obtain ⟨rfl, rfl, rfl, rfl, hI2, hk⟩ := hq
  have f1 := (hI2 x 1 (by omega)).trans f1
  have f2 := (hI2 x 2 (by omega)).trans f2
  have hI := fun (a j : Nat) (q : a ≠ 20) => (hI2 a j q).trans (hI a j q)
  have hn := hn.bo 10 (by omega)
  refine pv_aload_0 (pc := 11) dX1_calls_11 ?_
  refine pv_getI (pc := 12) dX1_calls_12 fg_X1_27_1 rfl (by omega) hs ?_
  refine pv_iadd (pc := 15) dX1_calls_15 ?_
  refine pv_iret (pc := 16) dX1_calls_16 rfl rfl ?_
  refine ⟨?_, rfl, rfl, rfl, hI, hk⟩
  first | rfl | (rw [f1]; done) | (rw [f2]; done) | (rw [f1, f2]; done)

theorem w_cb_1 (J : pv_I) : w_calB J 1 = w_body (w_body J 20) 10 := by unfold w_calB; simp [s_isC]
theorem c_calls_1 {G : pv_G} {d : Nat} {x : Nat} {y a w : Int32} {J : pv_I} {t : pv_T} {I : pv_I} {L : pv_L} {Rf : pv_R} (hT : sh_ok t) (hx : 90 ≤ x) (hs : t.1 x = some (.inr 1)) (hb : Rf x 4 = some 20) (f1 : I x 1 = y) (f2 : I x 2 = a) (hk : XT J I) (hn : XN 70 J) (hd : 4 ≤ d) : pv_Mt G mX1_calls d 0 0 [.ref x, .int w] t I L Rf (fun v t1 I1 L1 R1 => v = some (.int (w + y + a)) ∧ t1 = t ∧ L1 = L ∧ R1 = Rf ∧ (∀ a j, a ≠ 20 → I1 a j = I a j) ∧ XT (w_calB (J) 1) I1) := by
  rw [w_cb_1]
  exact c_X1_calls_1 hT hx hs hb f1 f2 hk (hn.mo (by omega)) (by omega)
set_option maxRecDepth 100000 in
set_option maxHeartbeats 4000000 in
theorem c_X3_steps_1 {G : pv_G} {d : Nat} {x : Nat} {y a w : Int32} {J : pv_I} {t : pv_T} {I : pv_I} {L : pv_L} {Rf : pv_R} (hT : sh_ok t) (hx : 90 ≤ x) (hs : t.1 x = some (.inr 1)) (hb : Rf x 4 = some 20) (f1 : I x 1 = y) (f2 : I x 2 = a) (hk : XT J I) (hn : XN 60 J) (hd : 6 ≤ d) : pv_Mt G mX3_steps d 0 0 [.ref x, .int w] t I L Rf (fun v t1 I1 L1 R1 => v = some (.int ((w + y + a) * 2)) ∧ t1 = t ∧ L1 = L ∧ R1 = Rf ∧ (∀ a j, a ≠ 20 → I1 a j = I a j) ∧ XT (w_calB (w_body J 11) 1) I1) := by
  refine pv_mt mgX3_steps.2.2.2.2.2 [.ref x, .int w] rfl (Nat.le_of_ble_eq_true rfl) ?_
  have hI : ∀ a j, a ≠ 20 → I a j = I a j := fun _ _ _ => rfl
  refine pv_aload_0 (pc := 0) dX3_steps_0 ?_
  refine pv_bipush (pc := 1) (v := 11) dX3_steps_1 (by decide) ?_
  refine pv_callUq (pc := 3) dX3_steps_3 mgX3_ran lu_X3_26_1 (by omega) hs (by omega) (c_X3_ran_1 hT hx hs hb f1 f2 hk (hn.mo (by omega))) rfl rfl (by decide) (fun v t I L Rf hq => ?_)
  obtain ⟨rfl, rfl, rfl, rfl, hI2, hk⟩ := hq
  have f1 := (hI2 x 1 (by omega)).trans f1
  have f2 := (hI2 x 2 (by omega)).trans f2
  have hI := fun (a j : Nat) (q : a ≠ 20) => (hI2 a j q).trans (hI a j q)
  have hn := hn.bo 11 (by omega)
  refine pv_aload_0 (pc := 6) dX3_steps_6 ?_
  refine pv_iload_1 (pc := 7) dX3_steps_7 ?_
  refine pv_callUq (pc := 8) dX3_steps_8 mgX1_calls lu_X3_30_1 (by omega) hs (by omega) (c_calls_1 hT hx hs hb f1 f2 hk (hn.mo (by omega)) (by omega)) rfl rfl (by decide) (fun v t I L Rf hq => ?_)
  obtain ⟨rfl, rfl, rfl, rfl, hI2, hk⟩ := hq
  have f1 := (hI2 x 1 (by omega)).trans f1
  have f2 := (hI2 x 2 (by omega)).trans f2
  have hI := fun (a j : Nat) (q : a ≠ 20) => (hI2 a j q).trans (hI a j q)
  have hn := hn.cal 1 (by omega)
  refine pv_iconst (pc := 11) (v := 2) dX3_steps_11 (by decide) ?_
  refine pv_imul (pc := 12) dX3_steps_12 ?_
  refine pv_iret (pc := 13) dX3_steps_13 rfl rfl ?_
  refine ⟨?_, rfl, rfl, rfl, hI, hk⟩
  first | rfl | (rw [f1]; done) | (rw [f2]; done) | (rw [f1, f2]; done)

theorem w_sb_1 (J : pv_I) : w_stB J 1 = w_calB (w_body J 11) 1 := by unfold w_stB; simp
theorem c_steps_1 {G : pv_G} {d : Nat} {x : Nat} {y a w : Int32} {J : pv_I} {t : pv_T} {I : pv_I} {L : pv_L} {Rf : pv_R} (hT : sh_ok t) (hx : 90 ≤ x) (hs : t.1 x = some (.inr 1)) (hb : Rf x 4 = some 20) (f1 : I x 1 = y) (f2 : I x 2 = a) (hk : XT J I) (hn : XN 50 J) (hd : 8 ≤ d) : pv_Mt G mX3_steps d 0 0 [.ref x, .int w] t I L Rf (fun v t1 I1 L1 R1 => v = some (.int ((w + y + a) * 2)) ∧ t1 = t ∧ L1 = L ∧ R1 = Rf ∧ (∀ a j, a ≠ 20 → I1 a j = I a j) ∧ XT (w_stB J 1) I1) := by
  rw [w_sb_1]
  exact c_X3_steps_1 hT hx hs hb f1 f2 hk (hn.mo (by omega)) (by omega)
set_option maxRecDepth 100000 in
set_option maxHeartbeats 4000000 in
theorem c_X3_knots_1 {G : pv_G} {d : Nat} {x : Nat} {y a w : Int32} {J : pv_I} {t : pv_T} {I : pv_I} {L : pv_L} {Rf : pv_R} (hT : sh_ok t) (hx : 90 ≤ x) (hs : t.1 x = some (.inr 1)) (hb : Rf x 4 = some 20) (f1 : I x 1 = y) (f2 : I x 2 = a) (hk : XT J I) (hn : XN 40 J) (hd : 10 ≤ d) : pv_Mt G mX3_knots d 0 0 [.ref x, .int w] t I L Rf (fun v t1 I1 L1 R1 => v = some (.int (((w + y + a) * 2) ^^^ ((w - a) + y + a))) ∧ t1 = t ∧ L1 = L ∧ R1 = Rf ∧ (∀ a j, a ≠ 20 → I1 a j = I a j) ∧ XT (w_calB (w_stB (w_body J 12) 1) 1) I1) := by
  refine pv_mt mgX3_knots.2.2.2.2.2 [.ref x, .int w] rfl (Nat.le_of_ble_eq_true rfl) ?_
  have hI : ∀ a j, a ≠ 20 → I a j = I a j := fun _ _ _ => rfl
  refine pv_aload_0 (pc := 0) dX3_knots_0 ?_
  refine pv_bipush (pc := 1) (v := 12) dX3_knots_1 (by decide) ?_
  refine pv_callUq (pc := 3) dX3_knots_3 mgX3_ran lu_X3_26_1 (by omega) hs (by omega) (c_X3_ran_1 hT hx hs hb f1 f2 hk (hn.mo (by omega))) rfl rfl (by decide) (fun v t I L Rf hq => ?_)
  obtain ⟨rfl, rfl, rfl, rfl, hI2, hk⟩ := hq
  have f1 := (hI2 x 1 (by omega)).trans f1
  have f2 := (hI2 x 2 (by omega)).trans f2
  have hI := fun (a j : Nat) (q : a ≠ 20) => (hI2 a j q).trans (hI a j q)
  have hn := hn.bo 12 (by omega)
  refine pv_aload_0 (pc := 6) dX3_knots_6 ?_
  refine pv_iload_1 (pc := 7) dX3_knots_7 ?_
  refine pv_callUq (pc := 8) dX3_knots_8 mgX3_steps lu_X3_34_1 (by omega) hs (by omega) (c_steps_1 hT hx hs hb f1 f2 hk (hn.mo (by omega)) (by omega)) rfl rfl (by decide) (fun v t I L Rf hq => ?_)
  obtain ⟨rfl, rfl, rfl, rfl, hI2, hk⟩ := hq
  have f1 := (hI2 x 1 (by omega)).trans f1
  have f2 := (hI2 x 2 (by omega)).trans f2
  have hI := fun (a j : Nat) (q : a ≠ 20) => (hI2 a j q).trans (hI a j q)
  have hn := hn.st 1 (by omega)
  refine pv_aload_0 (pc := 11) dX3_knots_11 ?_
  refine pv_iload_1 (pc := 12) dX3_knots_12 ?_
  refine pv_aload_0 (pc := 13) dX3_knots_13 ?_
  refine pv_getI (pc := 14) dX3_knots_14 fg_X3_16_1 rfl (by omega) hs ?_
  refine pv_isub (pc := 17) dX3_knots_17 ?_
  rw [f2]
  refine pv_callUq (pc := 18) dX3_knots_18 mgX1_calls lu_X3_30_1 (by omega) hs (by omega) (c_calls_1 hT hx hs hb f1 f2 hk (hn.mo (by omega)) (by omega)) rfl rfl (Nat.le_of_ble_eq_true rfl) (fun v t I L Rf hq => ?_)
  obtain ⟨rfl, rfl, rfl, rfl, hI2, hk⟩ := hq
  have f1 := (hI2 x 1 (by omega)).trans f1
  have f2 := (hI2 x 2 (by omega)).trans f2
  have hI := fun (a j : Nat) (q : a ≠ 20) => (hI2 a j q).trans (hI a j q)
  have hn := hn.cal 1 (by omega)
  refine pv_ixor (pc := 21) dX3_knots_21 ?_
  refine pv_iret (pc := 22) dX3_knots_22 rfl rfl ?_
  refine ⟨?_, rfl, rfl, rfl, hI, hk⟩
  first | rfl | (rw [f1]; done) | (rw [f2]; done) | (rw [f1, f2]; done)

theorem w_kb_1 (J : pv_I) : w_knB J 1 = w_calB (w_stB (w_body J 12) 1) 1 := by unfold w_knB w_knC; simp [s_isT]
theorem c_knots_1 {G : pv_G} {d : Nat} {x : Nat} {y a w : Int32} {J : pv_I} {t : pv_T} {I : pv_I} {L : pv_L} {Rf : pv_R} (hT : sh_ok t) (hx : 90 ≤ x) (hs : t.1 x = some (.inr 1)) (hb : Rf x 4 = some 20) (f1 : I x 1 = y) (f2 : I x 2 = a) (hk : XT J I) (hn : XN 30 J) (hd : 14 ≤ d) : pv_Mt G mX3_knots d 0 0 [.ref x, .int w] t I L Rf (fun v t1 I1 L1 R1 => v = some (.int (((w + y + a) * 2) ^^^ ((w - a) + y + a))) ∧ t1 = t ∧ L1 = L ∧ R1 = Rf ∧ (∀ a j, a ≠ 20 → I1 a j = I a j) ∧ XT (w_knB J 1) I1) := by
  rw [w_kb_1]
  exact c_X3_knots_1 hT hx hs hb f1 f2 hk (hn.mo (by omega)) (by omega)
set_option maxRecDepth 100000 in
set_option maxHeartbeats 4000000 in
theorem c_X3_calls_3 {G : pv_G} {d : Nat} {x : Nat} {y a w : Int32} {J : pv_I} {t : pv_T} {I : pv_I} {L : pv_L} {Rf : pv_R} (hT : sh_ok t) (hx : 90 ≤ x) (hs : t.1 x = some (.inr 3)) (hb : Rf x 4 = some 20) (f1 : I x 1 = y) (f2 : I x 2 = a) (hk : XT J I) (hn : XN 80 J) (hd : 2 ≤ d) : pv_Mt G mX3_calls d 0 0 [.ref x, .int w] t I L Rf (fun v t1 I1 L1 R1 => v = some (.int (w + y)) ∧ t1 = t ∧ L1 = L ∧ R1 = Rf ∧ (∀ a j, a ≠ 20 → I1 a j = I a j) ∧ XT (w_body J 10) I1) := by
  refine pv_mt mgX3_calls.2.2.2.2.2 [.ref x, .int w] rfl (Nat.le_of_ble_eq_true rfl) ?_
  have hI : ∀ a j, a ≠ 20 → I a j = I a j := fun _ _ _ => rfl
  refine pv_aload_0 (pc := 0) dX3_calls_0 ?_
  refine pv_bipush (pc := 1) (v := 10) dX3_calls_1 (by decide) ?_
  refine pv_callUq (pc := 3) dX3_calls_3 mgX3_ran lu_X3_26_3 (by omega) hs (by omega) (c_X3_ran_3 hT hx hs hb f1 f2 hk (hn.mo (by omega))) rfl rfl (by decide) (fun v t I L Rf hq => ?_)
  obtain ⟨rfl, rfl, rfl, rfl, hI2, hk⟩ := hq
  have f1 := (hI2 x 1 (by omega)).trans f1
  have f2 := (hI2 x 2 (by omega)).trans f2
  have hI := fun (a j : Nat) (q : a ≠ 20) => (hI2 a j q).trans (hI a j q)
  have hn := hn.bo 10 (by omega)
  refine pv_iload_1 (pc := 6) dX3_calls_6 ?_
  refine pv_aload_0 (pc := 7) dX3_calls_7 ?_
  refine pv_getI (pc := 8) dX3_calls_8 fg_X3_13_3 rfl (by omega) hs ?_
  refine pv_iadd (pc := 11) dX3_calls_11 ?_
  refine pv_iret (pc := 12) dX3_calls_12 rfl rfl ?_
  refine ⟨?_, rfl, rfl, rfl, hI, hk⟩
  first | rfl | (rw [f1]; done) | (rw [f2]; done) | (rw [f1, f2]; done)

theorem w_cb_0 (J : pv_I) : w_calB J 0 = w_body J 10 := by unfold w_calB; simp [s_isC]
theorem c_calls_3 {G : pv_G} {d : Nat} {x : Nat} {y a w : Int32} {J : pv_I} {t : pv_T} {I : pv_I} {L : pv_L} {Rf : pv_R} (hT : sh_ok t) (hx : 90 ≤ x) (hs : t.1 x = some (.inr 3)) (hb : Rf x 4 = some 20) (f1 : I x 1 = y) (f2 : I x 2 = a) (hk : XT J I) (hn : XN 70 J) (hd : 4 ≤ d) : pv_Mt G mX3_calls d 0 0 [.ref x, .int w] t I L Rf (fun v t1 I1 L1 R1 => v = some (.int (w + y)) ∧ t1 = t ∧ L1 = L ∧ R1 = Rf ∧ (∀ a j, a ≠ 20 → I1 a j = I a j) ∧ XT (w_calB (J) 0) I1) := by
  rw [w_cb_0]
  exact c_X3_calls_3 hT hx hs hb f1 f2 hk (hn.mo (by omega)) (by omega)
set_option maxRecDepth 100000 in
set_option maxHeartbeats 4000000 in
theorem c_X3_steps_3 {G : pv_G} {d : Nat} {x : Nat} {y a w : Int32} {J : pv_I} {t : pv_T} {I : pv_I} {L : pv_L} {Rf : pv_R} (hT : sh_ok t) (hx : 90 ≤ x) (hs : t.1 x = some (.inr 3)) (hb : Rf x 4 = some 20) (f1 : I x 1 = y) (f2 : I x 2 = a) (hk : XT J I) (hn : XN 60 J) (hd : 6 ≤ d) : pv_Mt G mX3_steps d 0 0 [.ref x, .int w] t I L Rf (fun v t1 I1 L1 R1 => v = some (.int ((w + y) * 2)) ∧ t1 = t ∧ L1 = L ∧ R1 = Rf ∧ (∀ a j, a ≠ 20 → I1 a j = I a j) ∧ XT (w_calB (w_body J 11) 0) I1) := by
  refine pv_mt mgX3_steps.2.2.2.2.2 [.ref x, .int w] rfl (Nat.le_of_ble_eq_true rfl) ?_
  have hI : ∀ a j, a ≠ 20 → I a j = I a j := fun _ _ _ => rfl
  refine pv_aload_0 (pc := 0) dX3_steps_0 ?_
  refine pv_bipush (pc := 1) (v := 11) dX3_steps_1 (by decide) ?_
  refine pv_callUq (pc := 3) dX3_steps_3 mgX3_ran lu_X3_26_3 (by omega) hs (by omega) (c_X3_ran_3 hT hx hs hb f1 f2 hk (hn.mo (by omega))) rfl rfl (by decide) (fun v t I L Rf hq => ?_)
  obtain ⟨rfl, rfl, rfl, rfl, hI2, hk⟩ := hq
  have f1 := (hI2 x 1 (by omega)).trans f1
  have f2 := (hI2 x 2 (by omega)).trans f2
  have hI := fun (a j : Nat) (q : a ≠ 20) => (hI2 a j q).trans (hI a j q)
  have hn := hn.bo 11 (by omega)
  refine pv_aload_0 (pc := 6) dX3_steps_6 ?_
  refine pv_iload_1 (pc := 7) dX3_steps_7 ?_
  refine pv_callUq (pc := 8) dX3_steps_8 mgX3_calls lu_X3_30_3 (by omega) hs (by omega) (c_calls_3 hT hx hs hb f1 f2 hk (hn.mo (by omega)) (by omega)) rfl rfl (by decide) (fun v t I L Rf hq => ?_)
  obtain ⟨rfl, rfl, rfl, rfl, hI2, hk⟩ := hq
  have f1 := (hI2 x 1 (by omega)).trans f1
  have f2 := (hI2 x 2 (by omega)).trans f2
  have hI := fun (a j : Nat) (q : a ≠ 20) => (hI2 a j q).trans (hI a j q)
  have hn := hn.cal 0 (by omega)
  refine pv_iconst (pc := 11) (v := 2) dX3_steps_11 (by decide) ?_
  refine pv_imul (pc := 12) dX3_steps_12 ?_
  refine pv_iret (pc := 13) dX3_steps_13 rfl rfl ?_
  refine ⟨?_, rfl, rfl, rfl, hI, hk⟩
  first | rfl | (rw [f1]; done) | (rw [f2]; done) | (rw [f1, f2]; done)

theorem w_sb_0 (J : pv_I) : w_stB J 0 = w_calB (w_body J 11) 0 := by unfold w_stB; simp
theorem c_steps_3 {G : pv_G} {d : Nat} {x : Nat} {y a w : Int32} {J : pv_I} {t : pv_T} {I : pv_I} {L : pv_L} {Rf : pv_R} (hT : sh_ok t) (hx : 90 ≤ x) (hs : t.1 x = some (.inr 3)) (hb : Rf x 4 = some 20) (f1 : I x 1 = y) (f2 : I x 2 = a) (hk : XT J I) (hn : XN 50 J) (hd : 8 ≤ d) : pv_Mt G mX3_steps d 0 0 [.ref x, .int w] t I L Rf (fun v t1 I1 L1 R1 => v = some (.int ((w + y) * 2)) ∧ t1 = t ∧ L1 = L ∧ R1 = Rf ∧ (∀ a j, a ≠ 20 → I1 a j = I a j) ∧ XT (w_stB J 0) I1) := by
  rw [w_sb_0]
  exact c_X3_steps_3 hT hx hs hb f1 f2 hk (hn.mo (by omega)) (by omega)
set_option maxRecDepth 100000 in
set_option maxHeartbeats 4000000 in
theorem c_X3_knots_3 {G : pv_G} {d : Nat} {x : Nat} {y a w : Int32} {J : pv_I} {t : pv_T} {I : pv_I} {L : pv_L} {Rf : pv_R} (hT : sh_ok t) (hx : 90 ≤ x) (hs : t.1 x = some (.inr 3)) (hb : Rf x 4 = some 20) (f1 : I x 1 = y) (f2 : I x 2 = a) (hk : XT J I) (hn : XN 40 J) (hd : 10 ≤ d) : pv_Mt G mX3_knots d 0 0 [.ref x, .int w] t I L Rf (fun v t1 I1 L1 R1 => v = some (.int (((w + y) * 2) ^^^ ((w - a) + y))) ∧ t1 = t ∧ L1 = L ∧ R1 = Rf ∧ (∀ a j, a ≠ 20 → I1 a j = I a j) ∧ XT (w_calB (w_stB (w_body J 12) 0) 0) I1) := by
  refine pv_mt mgX3_knots.2.2.2.2.2 [.ref x, .int w] rfl (Nat.le_of_ble_eq_true rfl) ?_
  have hI : ∀ a j, a ≠ 20 → I a j = I a j := fun _ _ _ => rfl
  refine pv_aload_0 (pc := 0) dX3_knots_0 ?_
  refine pv_bipush (pc := 1) (v := 12) dX3_knots_1 (by decide) ?_
  refine pv_callUq (pc := 3) dX3_knots_3 mgX3_ran lu_X3_26_3 (by omega) hs (by omega) (c_X3_ran_3 hT hx hs hb f1 f2 hk (hn.mo (by omega))) rfl rfl (by decide) (fun v t I L Rf hq => ?_)
  obtain ⟨rfl, rfl, rfl, rfl, hI2, hk⟩ := hq
  have f1 := (hI2 x 1 (by omega)).trans f1
  have f2 := (hI2 x 2 (by omega)).trans f2
  have hI := fun (a j : Nat) (q : a ≠ 20) => (hI2 a j q).trans (hI a j q)
  have hn := hn.bo 12 (by omega)
  refine pv_aload_0 (pc := 6) dX3_knots_6 ?_
  refine pv_iload_1 (pc := 7) dX3_knots_7 ?_
  refine pv_callUq (pc := 8) dX3_knots_8 mgX3_steps lu_X3_34_3 (by omega) hs (by omega) (c_steps_3 hT hx hs hb f1 f2 hk (hn.mo (by omega)) (by omega)) rfl rfl (by decide) (fun v t I L Rf hq => ?_)
  obtain ⟨rfl, rfl, rfl, rfl, hI2, hk⟩ := hq
  have f1 := (hI2 x 1 (by omega)).trans f1
  have f2 := (hI2 x 2 (by omega)).trans f2
  have hI := fun (a j : Nat) (q : a ≠ 20) => (hI2 a j q).trans (hI a j q)
  have hn := hn.st 0 (by omega)
  refine pv_aload_0 (pc := 11) dX3_knots_11 ?_
  refine pv_iload_1 (pc := 12) dX3_knots_12 ?_
  refine pv_aload_0 (pc := 13) dX3_knots_13 ?_
  refine pv_getI (pc := 14) dX3_knots_14 fg_X3_16_3 rfl (by omega) hs ?_
  refine pv_isub (pc := 17) dX3_knots_17 ?_
  rw [f2]
  refine pv_callUq (pc := 18) dX3_knots_18 mgX3_calls lu_X3_30_3 (by omega) hs (by omega) (c_calls_3 hT hx hs hb f1 f2 hk (hn.mo (by omega)) (by omega)) rfl rfl (Nat.le_of_ble_eq_true rfl) (fun v t I L Rf hq => ?_)
  obtain ⟨rfl, rfl, rfl, rfl, hI2, hk⟩ := hq
  have f1 := (hI2 x 1 (by omega)).trans f1
  have f2 := (hI2 x 2 (by omega)).trans f2
  have hI := fun (a j : Nat) (q : a ≠ 20) => (hI2 a j q).trans (hI a j q)
  have hn := hn.cal 0 (by omega)
  refine pv_ixor (pc := 21) dX3_knots_21 ?_
  refine pv_iret (pc := 22) dX3_knots_22 rfl rfl ?_
  refine ⟨?_, rfl, rfl, rfl, hI, hk⟩
  first | rfl | (rw [f1]; done) | (rw [f2]; done) | (rw [f1, f2]; done)

theorem w_kb_0 (J : pv_I) : w_knB J 0 = w_calB (w_stB (w_body J 12) 0) 0 := by unfold w_knB w_knC; simp [s_isT]
theorem c_knots_3 {G : pv_G} {d : Nat} {x : Nat} {y a w : Int32} {J : pv_I} {t : pv_T} {I : pv_I} {L : pv_L} {Rf : pv_R} (hT : sh_ok t) (hx : 90 ≤ x) (hs : t.1 x = some (.inr 3)) (hb : Rf x 4 = some 20) (f1 : I x 1 = y) (f2 : I x 2 = a) (hk : XT J I) (hn : XN 30 J) (hd : 14 ≤ d) : pv_Mt G mX3_knots d 0 0 [.ref x, .int w] t I L Rf (fun v t1 I1 L1 R1 => v = some (.int (((w + y) * 2) ^^^ ((w - a) + y))) ∧ t1 = t ∧ L1 = L ∧ R1 = Rf ∧ (∀ a j, a ≠ 20 → I1 a j = I a j) ∧ XT (w_knB J 0) I1) := by
  rw [w_kb_0]
  exact c_X3_knots_3 hT hx hs hb f1 f2 hk (hn.mo (by omega)) (by omega)
set_option maxRecDepth 100000 in
set_option maxHeartbeats 4000000 in
theorem c_X3_calls_5 {G : pv_G} {d : Nat} {x : Nat} {y a w : Int32} {J : pv_I} {t : pv_T} {I : pv_I} {L : pv_L} {Rf : pv_R} (hT : sh_ok t) (hx : 90 ≤ x) (hs : t.1 x = some (.inr 5)) (hb : Rf x 4 = some 20) (f1 : I x 1 = y) (f2 : I x 2 = a) (hk : XT J I) (hn : XN 80 J) (hd : 2 ≤ d) : pv_Mt G mX3_calls d 0 0 [.ref x, .int w] t I L Rf (fun v t1 I1 L1 R1 => v = some (.int (w + y)) ∧ t1 = t ∧ L1 = L ∧ R1 = Rf ∧ (∀ a j, a ≠ 20 → I1 a j = I a j) ∧ XT (w_body J 10) I1) := by
  refine pv_mt mgX3_calls.2.2.2.2.2 [.ref x, .int w] rfl (Nat.le_of_ble_eq_true rfl) ?_
  have hI : ∀ a j, a ≠ 20 → I a j = I a j := fun _ _ _ => rfl
  refine pv_aload_0 (pc := 0) dX3_calls_0 ?_
  refine pv_bipush (pc := 1) (v := 10) dX3_calls_1 (by decide) ?_
  refine pv_callUq (pc := 3) dX3_calls_3 mgX3_ran lu_X3_26_5 (by omega) hs (by omega) (c_X3_ran_5 hT hx hs hb f1 f2 hk (hn.mo (by omega))) rfl rfl (by decide) (fun v t I L Rf hq => ?_)
  obtain ⟨rfl, rfl, rfl, rfl, hI2, hk⟩ := hq
  have f1 := (hI2 x 1 (by omega)).trans f1
  have f2 := (hI2 x 2 (by omega)).trans f2
  have hI := fun (a j : Nat) (q : a ≠ 20) => (hI2 a j q).trans (hI a j q)
  have hn := hn.bo 10 (by omega)
  refine pv_iload_1 (pc := 6) dX3_calls_6 ?_
  refine pv_aload_0 (pc := 7) dX3_calls_7 ?_
  refine pv_getI (pc := 8) dX3_calls_8 fg_X3_13_5 rfl (by omega) hs ?_
  refine pv_iadd (pc := 11) dX3_calls_11 ?_
  refine pv_iret (pc := 12) dX3_calls_12 rfl rfl ?_
  refine ⟨?_, rfl, rfl, rfl, hI, hk⟩
  first | rfl | (rw [f1]; done) | (rw [f2]; done) | (rw [f1, f2]; done)

set_option maxRecDepth 100000 in
set_option maxHeartbeats 4000000 in
theorem c_X1_calls_5 {G : pv_G} {d : Nat} {x : Nat} {y a w : Int32} {J : pv_I} {t : pv_T} {I : pv_I} {L : pv_L} {Rf : pv_R} (hT : sh_ok t) (hx : 90 ≤ x) (hs : t.1 x = some (.inr 5)) (hb : Rf x 4 = some 20) (f1 : I x 1 = y) (f2 : I x 2 = a) (hk : XT J I) (hn : XN 78 J) (hd : 4 ≤ d) : pv_Mt G mX1_calls d 0 0 [.ref x, .int w] t I L Rf (fun v t1 I1 L1 R1 => v = some (.int (w + y + a)) ∧ t1 = t ∧ L1 = L ∧ R1 = Rf ∧ (∀ a j, a ≠ 20 → I1 a j = I a j) ∧ XT (w_body (w_body J 20) 10) I1) := by
  refine pv_mt mgX1_calls.2.2.2.2.2 [.ref x, .int w] rfl (Nat.le_of_ble_eq_true rfl) ?_
  have hI : ∀ a j, a ≠ 20 → I a j = I a j := fun _ _ _ => rfl
  refine pv_aload_0 (pc := 0) dX1_calls_0 ?_
  refine pv_bipush (pc := 1) (v := 20) dX1_calls_1 (by decide) ?_
  refine pv_callUq (pc := 3) dX1_calls_3 mgX3_ran lu_X1_19_5 (by omega) hs (by omega) (c_X3_ran_5 hT hx hs hb f1 f2 hk (hn.mo (by omega))) rfl rfl (by decide) (fun v t I L Rf hq => ?_)
  obtain ⟨rfl, rfl, rfl, rfl, hI2, hk⟩ := hq
  have f1 := (hI2 x 1 (by omega)).trans f1
  have f2 := (hI2 x 2 (by omega)).trans f2
  have hI := fun (a j : Nat) (q : a ≠ 20) => (hI2 a j q).trans (hI a j q)
  have hn := hn.bo 20 (by omega)
  refine pv_aload_0 (pc := 6) dX1_calls_6 ?_
  refine pv_iload_1 (pc := 7) dX1_calls_7 ?_
  refine pv_callSUq (pc := 8) dX1_calls_8 mgX3_calls lsu_X1_23 (by omega) hs (by omega) (c_X3_calls_5 hT hx hs hb f1 f2 hk (hn.mo (by omega)) (by omega)) rfl rfl (by decide) (fun v t I L Rf hq => ?_)
  obtain ⟨rfl, rfl, rfl, rfl, hI2, hk⟩ := hq
  have f1 := (hI2 x 1 (by omega)).trans f1
  have f2 := (hI2 x 2 (by omega)).trans f2
  have hI := fun (a j : Nat) (q : a ≠ 20) => (hI2 a j q).trans (hI a j q)
  have hn := hn.bo 10 (by omega)
  refine pv_aload_0 (pc := 11) dX1_calls_11 ?_
  refine pv_getI (pc := 12) dX1_calls_12 fg_X1_27_5 rfl (by omega) hs ?_
  refine pv_iadd (pc := 15) dX1_calls_15 ?_
  refine pv_iret (pc := 16) dX1_calls_16 rfl rfl ?_
  refine ⟨?_, rfl, rfl, rfl, hI, hk⟩
  first | rfl | (rw [f1]; done) | (rw [f2]; done) | (rw [f1, f2]; done)

theorem w_cb_3 (J : pv_I) : w_calB J 3 = w_body (w_body J 20) 10 := by unfold w_calB; simp [s_isC]
theorem c_calls_5 {G : pv_G} {d : Nat} {x : Nat} {y a w : Int32} {J : pv_I} {t : pv_T} {I : pv_I} {L : pv_L} {Rf : pv_R} (hT : sh_ok t) (hx : 90 ≤ x) (hs : t.1 x = some (.inr 5)) (hb : Rf x 4 = some 20) (f1 : I x 1 = y) (f2 : I x 2 = a) (hk : XT J I) (hn : XN 70 J) (hd : 4 ≤ d) : pv_Mt G mX1_calls d 0 0 [.ref x, .int w] t I L Rf (fun v t1 I1 L1 R1 => v = some (.int (w + y + a)) ∧ t1 = t ∧ L1 = L ∧ R1 = Rf ∧ (∀ a j, a ≠ 20 → I1 a j = I a j) ∧ XT (w_calB (J) 3) I1) := by
  rw [w_cb_3]
  exact c_X1_calls_5 hT hx hs hb f1 f2 hk (hn.mo (by omega)) (by omega)
set_option maxRecDepth 100000 in
set_option maxHeartbeats 4000000 in
theorem c_X3_steps_5 {G : pv_G} {d : Nat} {x : Nat} {y a w : Int32} {J : pv_I} {t : pv_T} {I : pv_I} {L : pv_L} {Rf : pv_R} (hT : sh_ok t) (hx : 90 ≤ x) (hs : t.1 x = some (.inr 5)) (hb : Rf x 4 = some 20) (f1 : I x 1 = y) (f2 : I x 2 = a) (hk : XT J I) (hn : XN 60 J) (hd : 6 ≤ d) : pv_Mt G mX3_steps d 0 0 [.ref x, .int w] t I L Rf (fun v t1 I1 L1 R1 => v = some (.int ((w + y + a) * 2)) ∧ t1 = t ∧ L1 = L ∧ R1 = Rf ∧ (∀ a j, a ≠ 20 → I1 a j = I a j) ∧ XT (w_calB (w_body J 11) 3) I1) := by
  refine pv_mt mgX3_steps.2.2.2.2.2 [.ref x, .int w] rfl (Nat.le_of_ble_eq_true rfl) ?_
  have hI : ∀ a j, a ≠ 20 → I a j = I a j := fun _ _ _ => rfl
  refine pv_aload_0 (pc := 0) dX3_steps_0 ?_
  refine pv_bipush (pc := 1) (v := 11) dX3_steps_1 (by decide) ?_
  refine pv_callUq (pc := 3) dX3_steps_3 mgX3_ran lu_X3_26_5 (by omega) hs (by omega) (c_X3_ran_5 hT hx hs hb f1 f2 hk (hn.mo (by omega))) rfl rfl (by decide) (fun v t I L Rf hq => ?_)
  obtain ⟨rfl, rfl, rfl, rfl, hI2, hk⟩ := hq
  have f1 := (hI2 x 1 (by omega)).trans f1
  have f2 := (hI2 x 2 (by omega)).trans f2
  have hI := fun (a j : Nat) (q : a ≠ 20) => (hI2 a j q).trans (hI a j q)
  have hn := hn.bo 11 (by omega)
  refine pv_aload_0 (pc := 6) dX3_steps_6 ?_
  refine pv_iload_1 (pc := 7) dX3_steps_7 ?_
  refine pv_callUq (pc := 8) dX3_steps_8 mgX1_calls lu_X3_30_5 (by omega) hs (by omega) (c_calls_5 hT hx hs hb f1 f2 hk (hn.mo (by omega)) (by omega)) rfl rfl (by decide) (fun v t I L Rf hq => ?_)
  obtain ⟨rfl, rfl, rfl, rfl, hI2, hk⟩ := hq
  have f1 := (hI2 x 1 (by omega)).trans f1
  have f2 := (hI2 x 2 (by omega)).trans f2
  have hI := fun (a j : Nat) (q : a ≠ 20) => (hI2 a j q).trans (hI a j q)
  have hn := hn.cal 3 (by omega)
  refine pv_iconst (pc := 11) (v := 2) dX3_steps_11 (by decide) ?_
  refine pv_imul (pc := 12) dX3_steps_12 ?_
  refine pv_iret (pc := 13) dX3_steps_13 rfl rfl ?_
  refine ⟨?_, rfl, rfl, rfl, hI, hk⟩
  first | rfl | (rw [f1]; done) | (rw [f2]; done) | (rw [f1, f2]; done)

set_option maxRecDepth 100000 in
set_option maxHeartbeats 4000000 in
theorem c_X5_steps_5 {G : pv_G} {d : Nat} {x : Nat} {y a w : Int32} {J : pv_I} {t : pv_T} {I : pv_I} {L : pv_L} {Rf : pv_R} (hT : sh_ok t) (hx : 90 ≤ x) (hs : t.1 x = some (.inr 5)) (hb : Rf x 4 = some 20) (f1 : I x 1 = y) (f2 : I x 2 = a) (hk : XT J I) (hn : XN 58 J) (hd : 8 ≤ d) : pv_Mt G mX5_steps d 0 0 [.ref x, .int w] t I L Rf (fun v t1 I1 L1 R1 => v = some (.int (((w + 1) + y + a) * 2)) ∧ t1 = t ∧ L1 = L ∧ R1 = Rf ∧ (∀ a j, a ≠ 20 → I1 a j = I a j) ∧ XT (w_calB (w_body (w_body J 40) 11) 3) I1) := by
  refine pv_mt mgX5_steps.2.2.2.2.2 [.ref x, .int w] rfl (Nat.le_of_ble_eq_true rfl) ?_
  have hI : ∀ a j, a ≠ 20 → I a j = I a j := fun _ _ _ => rfl
  refine pv_aload_0 (pc := 0) dX5_steps_0 ?_
  refine pv_bipush (pc := 1) (v := 40) dX5_steps_1 (by decide) ?_
  refine pv_callUq (pc := 3) dX5_steps_3 mgX3_ran lu_X5_13_5 (by omega) hs (by omega) (c_X3_ran_5 hT hx hs hb f1 f2 hk (hn.mo (by omega))) rfl rfl (by decide) (fun v t I L Rf hq => ?_)
  obtain ⟨rfl, rfl, rfl, rfl, hI2, hk⟩ := hq
  have f1 := (hI2 x 1 (by omega)).trans f1
  have f2 := (hI2 x 2 (by omega)).trans f2
  have hI := fun (a j : Nat) (q : a ≠ 20) => (hI2 a j q).trans (hI a j q)
  have hn := hn.bo 40 (by omega)
  refine pv_aload_0 (pc := 6) dX5_steps_6 ?_
  refine pv_iload_1 (pc := 7) dX5_steps_7 ?_
  refine pv_iconst (pc := 8) (v := 1) dX5_steps_8 (by decide) ?_
  refine pv_iadd (pc := 9) dX5_steps_9 ?_
  refine pv_callSXq (pc := 10) dX5_steps_10 mgX3_steps lsx_X5_17 (by omega) hs (by omega) (c_X3_steps_5 hT hx hs hb f1 f2 hk (hn.mo (by omega)) (by omega)) rfl rfl (by decide) (fun v t I L Rf hq => ?_)
  obtain ⟨rfl, rfl, rfl, rfl, hI2, hk⟩ := hq
  have f1 := (hI2 x 1 (by omega)).trans f1
  have f2 := (hI2 x 2 (by omega)).trans f2
  have hI := fun (a j : Nat) (q : a ≠ 20) => (hI2 a j q).trans (hI a j q)
  have hn := hn
  refine pv_iret (pc := 13) dX5_steps_13 rfl rfl ?_
  refine ⟨?_, rfl, rfl, rfl, hI, hk⟩
  first | rfl | (rw [f1]; done) | (rw [f2]; done) | (rw [f1, f2]; done)

theorem w_sb_3 (J : pv_I) : w_stB J 3 = w_calB (w_body (w_body J 40) 11) 3 := by unfold w_stB; simp
theorem c_steps_5 {G : pv_G} {d : Nat} {x : Nat} {y a w : Int32} {J : pv_I} {t : pv_T} {I : pv_I} {L : pv_L} {Rf : pv_R} (hT : sh_ok t) (hx : 90 ≤ x) (hs : t.1 x = some (.inr 5)) (hb : Rf x 4 = some 20) (f1 : I x 1 = y) (f2 : I x 2 = a) (hk : XT J I) (hn : XN 50 J) (hd : 8 ≤ d) : pv_Mt G mX5_steps d 0 0 [.ref x, .int w] t I L Rf (fun v t1 I1 L1 R1 => v = some (.int (((w + 1) + y + a) * 2)) ∧ t1 = t ∧ L1 = L ∧ R1 = Rf ∧ (∀ a j, a ≠ 20 → I1 a j = I a j) ∧ XT (w_stB J 3) I1) := by
  rw [w_sb_3]
  exact c_X5_steps_5 hT hx hs hb f1 f2 hk (hn.mo (by omega)) (by omega)
set_option maxRecDepth 100000 in
set_option maxHeartbeats 4000000 in
theorem c_X3_knots_5 {G : pv_G} {d : Nat} {x : Nat} {y a w : Int32} {J : pv_I} {t : pv_T} {I : pv_I} {L : pv_L} {Rf : pv_R} (hT : sh_ok t) (hx : 90 ≤ x) (hs : t.1 x = some (.inr 5)) (hb : Rf x 4 = some 20) (f1 : I x 1 = y) (f2 : I x 2 = a) (hk : XT J I) (hn : XN 40 J) (hd : 10 ≤ d) : pv_Mt G mX3_knots d 0 0 [.ref x, .int w] t I L Rf (fun v t1 I1 L1 R1 => v = some (.int ((((w + 1) + y + a) * 2) ^^^ ((w - a) + y + a))) ∧ t1 = t ∧ L1 = L ∧ R1 = Rf ∧ (∀ a j, a ≠ 20 → I1 a j = I a j) ∧ XT (w_calB (w_stB (w_body J 12) 3) 3) I1) := by
  refine pv_mt mgX3_knots.2.2.2.2.2 [.ref x, .int w] rfl (Nat.le_of_ble_eq_true rfl) ?_
  have hI : ∀ a j, a ≠ 20 → I a j = I a j := fun _ _ _ => rfl
  refine pv_aload_0 (pc := 0) dX3_knots_0 ?_
  refine pv_bipush (pc := 1) (v := 12) dX3_knots_1 (by decide) ?_
  refine pv_callUq (pc := 3) dX3_knots_3 mgX3_ran lu_X3_26_5 (by omega) hs (by omega) (c_X3_ran_5 hT hx hs hb f1 f2 hk (hn.mo (by omega))) rfl rfl (by decide) (fun v t I L Rf hq => ?_)
  obtain ⟨rfl, rfl, rfl, rfl, hI2, hk⟩ := hq
  have f1 := (hI2 x 1 (by omega)).trans f1
  have f2 := (hI2 x 2 (by omega)).trans f2
  have hI := fun (a j : Nat) (q : a ≠ 20) => (hI2 a j q).trans (hI a j q)
  have hn := hn.bo 12 (by omega)
  refine pv_aload_0 (pc := 6) dX3_knots_6 ?_
  refine pv_iload_1 (pc := 7) dX3_knots_7 ?_
  refine pv_callUq (pc := 8) dX3_knots_8 mgX5_steps lu_X3_34_5 (by omega) hs (by omega) (c_steps_5 hT hx hs hb f1 f2 hk (hn.mo (by omega)) (by omega)) rfl rfl (by decide) (fun v t I L Rf hq => ?_)
  obtain ⟨rfl, rfl, rfl, rfl, hI2, hk⟩ := hq
  have f1 := (hI2 x 1 (by omega)).trans f1
  have f2 := (hI2 x 2 (by omega)).trans f2
  have hI := fun (a j : Nat) (q : a ≠ 20) => (hI2 a j q).trans (hI a j q)
  have hn := hn.st 3 (by omega)
  refine pv_aload_0 (pc := 11) dX3_knots_11 ?_
  refine pv_iload_1 (pc := 12) dX3_knots_12 ?_
  refine pv_aload_0 (pc := 13) dX3_knots_13 ?_
  refine pv_getI (pc := 14) dX3_knots_14 fg_X3_16_5 rfl (by omega) hs ?_
  refine pv_isub (pc := 17) dX3_knots_17 ?_
  rw [f2]
  refine pv_callUq (pc := 18) dX3_knots_18 mgX1_calls lu_X3_30_5 (by omega) hs (by omega) (c_calls_5 hT hx hs hb f1 f2 hk (hn.mo (by omega)) (by omega)) rfl rfl (Nat.le_of_ble_eq_true rfl) (fun v t I L Rf hq => ?_)
  obtain ⟨rfl, rfl, rfl, rfl, hI2, hk⟩ := hq
  have f1 := (hI2 x 1 (by omega)).trans f1
  have f2 := (hI2 x 2 (by omega)).trans f2
  have hI := fun (a j : Nat) (q : a ≠ 20) => (hI2 a j q).trans (hI a j q)
  have hn := hn.cal 3 (by omega)
  refine pv_ixor (pc := 21) dX3_knots_21 ?_
  refine pv_iret (pc := 22) dX3_knots_22 rfl rfl ?_
  refine ⟨?_, rfl, rfl, rfl, hI, hk⟩
  first | rfl | (rw [f1]; done) | (rw [f2]; done) | (rw [f1, f2]; done)

set_option maxRecDepth 100000 in
set_option maxHeartbeats 4000000 in
theorem c_X5_knots_5 {G : pv_G} {d : Nat} {x : Nat} {y a w : Int32} {J : pv_I} {t : pv_T} {I : pv_I} {L : pv_L} {Rf : pv_R} (hT : sh_ok t) (hx : 90 ≤ x) (hs : t.1 x = some (.inr 5)) (hb : Rf x 4 = some 20) (f1 : I x 1 = y) (f2 : I x 2 = a) (hk : XT J I) (hn : XN 38 J) (hd : 12 ≤ d) : pv_Mt G mX5_knots d 0 0 [.ref x, .int w] t I L Rf (fun v t1 I1 L1 R1 => v = some (.int (((((w + 1) + y + a) * 2) ^^^ ((w - a) + y + a)) - y)) ∧ t1 = t ∧ L1 = L ∧ R1 = Rf ∧ (∀ a j, a ≠ 20 → I1 a j = I a j) ∧ XT (w_calB (w_stB (w_body (w_body J 41) 12) 3) 3) I1) := by
  refine pv_mt mgX5_knots.2.2.2.2.2 [.ref x, .int w] rfl (Nat.le_of_ble_eq_true rfl) ?_
  have hI : ∀ a j, a ≠ 20 → I a j = I a j := fun _ _ _ => rfl
  refine pv_aload_0 (pc := 0) dX5_knots_0 ?_
  refine pv_bipush (pc := 1) (v := 41) dX5_knots_1 (by decide) ?_
  refine pv_callUq (pc := 3) dX5_knots_3 mgX3_ran lu_X5_13_5 (by omega) hs (by omega) (c_X3_ran_5 hT hx hs hb f1 f2 hk (hn.mo (by omega))) rfl rfl (by decide) (fun v t I L Rf hq => ?_)
  obtain ⟨rfl, rfl, rfl, rfl, hI2, hk⟩ := hq
  have f1 := (hI2 x 1 (by omega)).trans f1
  have f2 := (hI2 x 2 (by omega)).trans f2
  have hI := fun (a j : Nat) (q : a ≠ 20) => (hI2 a j q).trans (hI a j q)
  have hn := hn.bo 41 (by omega)
  refine pv_aload_0 (pc := 6) dX5_knots_6 ?_
  refine pv_iload_1 (pc := 7) dX5_knots_7 ?_
  refine pv_callSXq (pc := 8) dX5_knots_8 mgX3_knots lsx_X5_21 (by omega) hs (by omega) (c_X3_knots_5 hT hx hs hb f1 f2 hk (hn.mo (by omega)) (by omega)) rfl rfl (by decide) (fun v t I L Rf hq => ?_)
  obtain ⟨rfl, rfl, rfl, rfl, hI2, hk⟩ := hq
  have f1 := (hI2 x 1 (by omega)).trans f1
  have f2 := (hI2 x 2 (by omega)).trans f2
  have hI := fun (a j : Nat) (q : a ≠ 20) => (hI2 a j q).trans (hI a j q)
  have hn := hn
  refine pv_aload_0 (pc := 11) dX5_knots_11 ?_
  refine pv_getI (pc := 12) dX5_knots_12 fg_X5_24_5 rfl (by omega) hs ?_
  refine pv_isub (pc := 15) dX5_knots_15 ?_
  refine pv_iret (pc := 16) dX5_knots_16 rfl rfl ?_
  refine ⟨?_, rfl, rfl, rfl, hI, hk⟩
  first | rfl | (rw [f1]; done) | (rw [f2]; done) | (rw [f1, f2]; done)

theorem w_kb_3 (J : pv_I) : w_knB J 3 = w_calB (w_stB (w_body (w_body J 41) 12) 3) 3 := by unfold w_knB w_knC; simp [s_isT]
theorem c_knots_5 {G : pv_G} {d : Nat} {x : Nat} {y a w : Int32} {J : pv_I} {t : pv_T} {I : pv_I} {L : pv_L} {Rf : pv_R} (hT : sh_ok t) (hx : 90 ≤ x) (hs : t.1 x = some (.inr 5)) (hb : Rf x 4 = some 20) (f1 : I x 1 = y) (f2 : I x 2 = a) (hk : XT J I) (hn : XN 30 J) (hd : 14 ≤ d) : pv_Mt G mX5_knots d 0 0 [.ref x, .int w] t I L Rf (fun v t1 I1 L1 R1 => v = some (.int (((((w + 1) + y + a) * 2) ^^^ ((w - a) + y + a)) - y)) ∧ t1 = t ∧ L1 = L ∧ R1 = Rf ∧ (∀ a j, a ≠ 20 → I1 a j = I a j) ∧ XT (w_knB J 3) I1) := by
  rw [w_kb_3]
  exact c_X5_knots_5 hT hx hs hb f1 f2 hk (hn.mo (by omega)) (by omega)
set_option maxRecDepth 100000 in
set_option maxHeartbeats 4000000 in
theorem c_X3_calls_6 {G : pv_G} {d : Nat} {x : Nat} {y a w : Int32} {J : pv_I} {t : pv_T} {I : pv_I} {L : pv_L} {Rf : pv_R} (hT : sh_ok t) (hx : 90 ≤ x) (hs : t.1 x = some (.inr 6)) (hb : Rf x 4 = some 20) (f1 : I x 1 = y) (f2 : I x 2 = a) (hk : XT J I) (hn : XN 80 J) (hd : 2 ≤ d) : pv_Mt G mX3_calls d 0 0 [.ref x, .int w] t I L Rf (fun v t1 I1 L1 R1 => v = some (.int (w + y)) ∧ t1 = t ∧ L1 = L ∧ R1 = Rf ∧ (∀ a j, a ≠ 20 → I1 a j = I a j) ∧ XT (w_body J 10) I1) := by
  refine pv_mt mgX3_calls.2.2.2.2.2 [.ref x, .int w] rfl (Nat.le_of_ble_eq_true rfl) ?_
  have hI : ∀ a j, a ≠ 20 → I a j = I a j := fun _ _ _ => rfl
  refine pv_aload_0 (pc := 0) dX3_calls_0 ?_
  refine pv_bipush (pc := 1) (v := 10) dX3_calls_1 (by decide) ?_
  refine pv_callUq (pc := 3) dX3_calls_3 mgX3_ran lu_X3_26_6 (by omega) hs (by omega) (c_X3_ran_6 hT hx hs hb f1 f2 hk (hn.mo (by omega))) rfl rfl (by decide) (fun v t I L Rf hq => ?_)
  obtain ⟨rfl, rfl, rfl, rfl, hI2, hk⟩ := hq
  have f1 := (hI2 x 1 (by omega)).trans f1
  have f2 := (hI2 x 2 (by omega)).trans f2
  have hI := fun (a j : Nat) (q : a ≠ 20) => (hI2 a j q).trans (hI a j q)
  have hn := hn.bo 10 (by omega)
  refine pv_iload_1 (pc := 6) dX3_calls_6 ?_
  refine pv_aload_0 (pc := 7) dX3_calls_7 ?_
  refine pv_getI (pc := 8) dX3_calls_8 fg_X3_13_6 rfl (by omega) hs ?_
  refine pv_iadd (pc := 11) dX3_calls_11 ?_
  refine pv_iret (pc := 12) dX3_calls_12 rfl rfl ?_
  refine ⟨?_, rfl, rfl, rfl, hI, hk⟩
  first | rfl | (rw [f1]; done) | (rw [f2]; done) | (rw [f1, f2]; done)

theorem w_cb_6 (J : pv_I) : w_calB J 6 = w_body J 10 := by unfold w_calB; simp [s_isC]
theorem c_calls_6 {G : pv_G} {d : Nat} {x : Nat} {y a w : Int32} {J : pv_I} {t : pv_T} {I : pv_I} {L : pv_L} {Rf : pv_R} (hT : sh_ok t) (hx : 90 ≤ x) (hs : t.1 x = some (.inr 6)) (hb : Rf x 4 = some 20) (f1 : I x 1 = y) (f2 : I x 2 = a) (hk : XT J I) (hn : XN 70 J) (hd : 4 ≤ d) : pv_Mt G mX3_calls d 0 0 [.ref x, .int w] t I L Rf (fun v t1 I1 L1 R1 => v = some (.int (w + y)) ∧ t1 = t ∧ L1 = L ∧ R1 = Rf ∧ (∀ a j, a ≠ 20 → I1 a j = I a j) ∧ XT (w_calB (J) 6) I1) := by
  rw [w_cb_6]
  exact c_X3_calls_6 hT hx hs hb f1 f2 hk (hn.mo (by omega)) (by omega)
set_option maxRecDepth 100000 in
set_option maxHeartbeats 4000000 in
theorem c_X3_steps_6 {G : pv_G} {d : Nat} {x : Nat} {y a w : Int32} {J : pv_I} {t : pv_T} {I : pv_I} {L : pv_L} {Rf : pv_R} (hT : sh_ok t) (hx : 90 ≤ x) (hs : t.1 x = some (.inr 6)) (hb : Rf x 4 = some 20) (f1 : I x 1 = y) (f2 : I x 2 = a) (hk : XT J I) (hn : XN 60 J) (hd : 6 ≤ d) : pv_Mt G mX3_steps d 0 0 [.ref x, .int w] t I L Rf (fun v t1 I1 L1 R1 => v = some (.int ((w + y) * 2)) ∧ t1 = t ∧ L1 = L ∧ R1 = Rf ∧ (∀ a j, a ≠ 20 → I1 a j = I a j) ∧ XT (w_calB (w_body J 11) 6) I1) := by
  refine pv_mt mgX3_steps.2.2.2.2.2 [.ref x, .int w] rfl (Nat.le_of_ble_eq_true rfl) ?_
  have hI : ∀ a j, a ≠ 20 → I a j = I a j := fun _ _ _ => rfl
  refine pv_aload_0 (pc := 0) dX3_steps_0 ?_
  refine pv_bipush (pc := 1) (v := 11) dX3_steps_1 (by decide) ?_
  refine pv_callUq (pc := 3) dX3_steps_3 mgX3_ran lu_X3_26_6 (by omega) hs (by omega) (c_X3_ran_6 hT hx hs hb f1 f2 hk (hn.mo (by omega))) rfl rfl (by decide) (fun v t I L Rf hq => ?_)
  obtain ⟨rfl, rfl, rfl, rfl, hI2, hk⟩ := hq
  have f1 := (hI2 x 1 (by omega)).trans f1
  have f2 := (hI2 x 2 (by omega)).trans f2
  have hI := fun (a j : Nat) (q : a ≠ 20) => (hI2 a j q).trans (hI a j q)
  have hn := hn.bo 11 (by omega)
  refine pv_aload_0 (pc := 6) dX3_steps_6 ?_
  refine pv_iload_1 (pc := 7) dX3_steps_7 ?_
  refine pv_callUq (pc := 8) dX3_steps_8 mgX3_calls lu_X3_30_6 (by omega) hs (by omega) (c_calls_6 hT hx hs hb f1 f2 hk (hn.mo (by omega)) (by omega)) rfl rfl (by decide) (fun v t I L Rf hq => ?_)
  obtain ⟨rfl, rfl, rfl, rfl, hI2, hk⟩ := hq
  have f1 := (hI2 x 1 (by omega)).trans f1
  have f2 := (hI2 x 2 (by omega)).trans f2
  have hI := fun (a j : Nat) (q : a ≠ 20) => (hI2 a j q).trans (hI a j q)
  have hn := hn.cal 6 (by omega)
  refine pv_iconst (pc := 11) (v := 2) dX3_steps_11 (by decide) ?_
  refine pv_imul (pc := 12) dX3_steps_12 ?_
  refine pv_iret (pc := 13) dX3_steps_13 rfl rfl ?_
  refine ⟨?_, rfl, rfl, rfl, hI, hk⟩
  first | rfl | (rw [f1]; done) | (rw [f2]; done) | (rw [f1, f2]; done)

set_option maxRecDepth 100000 in
set_option maxHeartbeats 4000000 in
theorem c_X6_steps_6 {G : pv_G} {d : Nat} {x : Nat} {y a w : Int32} {J : pv_I} {t : pv_T} {I : pv_I} {L : pv_L} {Rf : pv_R} (hT : sh_ok t) (hx : 90 ≤ x) (hs : t.1 x = some (.inr 6)) (hb : Rf x 4 = some 20) (f1 : I x 1 = y) (f2 : I x 2 = a) (hk : XT J I) (hn : XN 58 J) (hd : 8 ≤ d) : pv_Mt G mX6_steps d 0 0 [.ref x, .int w] t I L Rf (fun v t1 I1 L1 R1 => v = some (.int (((w - a) + y) * 2)) ∧ t1 = t ∧ L1 = L ∧ R1 = Rf ∧ (∀ a j, a ≠ 20 → I1 a j = I a j) ∧ XT (w_calB (w_body (w_body J 71) 11) 6) I1) := by
  refine pv_mt mgX6_steps.2.2.2.2.2 [.ref x, .int w] rfl (Nat.le_of_ble_eq_true rfl) ?_
  have hI : ∀ a j, a ≠ 20 → I a j = I a j := fun _ _ _ => rfl
  refine pv_aload_0 (pc := 0) dX6_steps_0 ?_
  refine pv_bipush (pc := 1) (v := 71) dX6_steps_1 (by decide) ?_
  refine pv_callUq (pc := 3) dX6_steps_3 mgX3_ran lu_X6_13_6 (by omega) hs (by omega) (c_X3_ran_6 hT hx hs hb f1 f2 hk (hn.mo (by omega))) rfl rfl (by decide) (fun v t I L Rf hq => ?_)
  obtain ⟨rfl, rfl, rfl, rfl, hI2, hk⟩ := hq
  have f1 := (hI2 x 1 (by omega)).trans f1
  have f2 := (hI2 x 2 (by omega)).trans f2
  have hI := fun (a j : Nat) (q : a ≠ 20) => (hI2 a j q).trans (hI a j q)
  have hn := hn.bo 71 (by omega)
  refine pv_aload_0 (pc := 6) dX6_steps_6 ?_
  refine pv_iload_1 (pc := 7) dX6_steps_7 ?_
  refine pv_aload_0 (pc := 8) dX6_steps_8 ?_
  refine pv_getI (pc := 9) dX6_steps_9 fg_X6_7_6 rfl (by omega) hs ?_
  refine pv_isub (pc := 12) dX6_steps_12 ?_
  rw [f2]
  refine pv_callSXq (pc := 13) dX6_steps_13 mgX3_steps lsx_X6_21 (by omega) hs (by omega) (c_X3_steps_6 hT hx hs hb f1 f2 hk (hn.mo (by omega)) (by omega)) rfl rfl (by decide) (fun v t I L Rf hq => ?_)
  obtain ⟨rfl, rfl, rfl, rfl, hI2, hk⟩ := hq
  have f1 := (hI2 x 1 (by omega)).trans f1
  have f2 := (hI2 x 2 (by omega)).trans f2
  have hI := fun (a j : Nat) (q : a ≠ 20) => (hI2 a j q).trans (hI a j q)
  have hn := hn
  refine pv_iret (pc := 16) dX6_steps_16 rfl rfl ?_
  refine ⟨?_, rfl, rfl, rfl, hI, hk⟩
  first | rfl | (rw [f1]; done) | (rw [f2]; done) | (rw [f1, f2]; done)

theorem w_sb_6 (J : pv_I) : w_stB J 6 = w_calB (w_body (w_body J 71) 11) 6 := by unfold w_stB; simp
theorem c_steps_6 {G : pv_G} {d : Nat} {x : Nat} {y a w : Int32} {J : pv_I} {t : pv_T} {I : pv_I} {L : pv_L} {Rf : pv_R} (hT : sh_ok t) (hx : 90 ≤ x) (hs : t.1 x = some (.inr 6)) (hb : Rf x 4 = some 20) (f1 : I x 1 = y) (f2 : I x 2 = a) (hk : XT J I) (hn : XN 50 J) (hd : 8 ≤ d) : pv_Mt G mX6_steps d 0 0 [.ref x, .int w] t I L Rf (fun v t1 I1 L1 R1 => v = some (.int (((w - a) + y) * 2)) ∧ t1 = t ∧ L1 = L ∧ R1 = Rf ∧ (∀ a j, a ≠ 20 → I1 a j = I a j) ∧ XT (w_stB J 6) I1) := by
  rw [w_sb_6]
  exact c_X6_steps_6 hT hx hs hb f1 f2 hk (hn.mo (by omega)) (by omega)
set_option maxRecDepth 100000 in
set_option maxHeartbeats 4000000 in
theorem c_X3_knots_6 {G : pv_G} {d : Nat} {x : Nat} {y a w : Int32} {J : pv_I} {t : pv_T} {I : pv_I} {L : pv_L} {Rf : pv_R} (hT : sh_ok t) (hx : 90 ≤ x) (hs : t.1 x = some (.inr 6)) (hb : Rf x 4 = some 20) (f1 : I x 1 = y) (f2 : I x 2 = a) (hk : XT J I) (hn : XN 40 J) (hd : 10 ≤ d) : pv_Mt G mX3_knots d 0 0 [.ref x, .int w] t I L Rf (fun v t1 I1 L1 R1 => v = some (.int ((((w - a) + y) * 2) ^^^ ((w - a) + y))) ∧ t1 = t ∧ L1 = L ∧ R1 = Rf ∧ (∀ a j, a ≠ 20 → I1 a j = I a j) ∧ XT (w_calB (w_stB (w_body J 12) 6) 6) I1) := by
  refine pv_mt mgX3_knots.2.2.2.2.2 [.ref x, .int w] rfl (Nat.le_of_ble_eq_true rfl) ?_
  have hI : ∀ a j, a ≠ 20 → I a j = I a j := fun _ _ _ => rfl
  refine pv_aload_0 (pc := 0) dX3_knots_0 ?_
  refine pv_bipush (pc := 1) (v := 12) dX3_knots_1 (by decide) ?_
  refine pv_callUq (pc := 3) dX3_knots_3 mgX3_ran lu_X3_26_6 (by omega) hs (by omega) (c_X3_ran_6 hT hx hs hb f1 f2 hk (hn.mo (by omega))) rfl rfl (by decide) (fun v t I L Rf hq => ?_)
  obtain ⟨rfl, rfl, rfl, rfl, hI2, hk⟩ := hq
  have f1 := (hI2 x 1 (by omega)).trans f1
  have f2 := (hI2 x 2 (by omega)).trans f2
  have hI := fun (a j : Nat) (q : a ≠ 20) => (hI2 a j q).trans (hI a j q)
  have hn := hn.bo 12 (by omega)
  refine pv_aload_0 (pc := 6) dX3_knots_6 ?_
  refine pv_iload_1 (pc := 7) dX3_knots_7 ?_
  refine pv_callUq (pc := 8) dX3_knots_8 mgX6_steps lu_X3_34_6 (by omega) hs (by omega) (c_steps_6 hT hx hs hb f1 f2 hk (hn.mo (by omega)) (by omega)) rfl rfl (by decide) (fun v t I L Rf hq => ?_)
  obtain ⟨rfl, rfl, rfl, rfl, hI2, hk⟩ := hq
  have f1 := (hI2 x 1 (by omega)).trans f1
  have f2 := (hI2 x 2 (by omega)).trans f2
  have hI := fun (a j : Nat) (q : a ≠ 20) => (hI2 a j q).trans (hI a j q)
  have hn := hn.st 6 (by omega)
  refine pv_aload_0 (pc := 11) dX3_knots_11 ?_
  refine pv_iload_1 (pc := 12) dX3_knots_12 ?_
  refine pv_aload_0 (pc := 13) dX3_knots_13 ?_
  refine pv_getI (pc := 14) dX3_knots_14 fg_X3_16_6 rfl (by omega) hs ?_
  refine pv_isub (pc := 17) dX3_knots_17 ?_
  rw [f2]
  refine pv_callUq (pc := 18) dX3_knots_18 mgX3_calls lu_X3_30_6 (by omega) hs (by omega) (c_calls_6 hT hx hs hb f1 f2 hk (hn.mo (by omega)) (by omega)) rfl rfl (Nat.le_of_ble_eq_true rfl) (fun v t I L Rf hq => ?_)
  obtain ⟨rfl, rfl, rfl, rfl, hI2, hk⟩ := hq
  have f1 := (hI2 x 1 (by omega)).trans f1
  have f2 := (hI2 x 2 (by omega)).trans f2
  have hI := fun (a j : Nat) (q : a ≠ 20) => (hI2 a j q).trans (hI a j q)
  have hn := hn.cal 6 (by omega)
  refine pv_ixor (pc := 21) dX3_knots_21 ?_
  refine pv_iret (pc := 22) dX3_knots_22 rfl rfl ?_
  refine ⟨?_, rfl, rfl, rfl, hI, hk⟩
  first | rfl | (rw [f1]; done) | (rw [f2]; done) | (rw [f1, f2]; done)

set_option maxRecDepth 100000 in
set_option maxHeartbeats 4000000 in
theorem c_X9_knots_6 {G : pv_G} {d : Nat} {x : Nat} {y a w : Int32} {J : pv_I} {t : pv_T} {I : pv_I} {L : pv_L} {Rf : pv_R} (hT : sh_ok t) (hx : 90 ≤ x) (hs : t.1 x = some (.inr 6)) (hb : Rf x 4 = some 20) (f1 : I x 1 = y) (f2 : I x 2 = a) (hk : XT J I) (hn : XN 38 J) (hd : 12 ≤ d) : pv_Mt G mX9_knots d 0 0 [.ref x, .int w] t I L Rf (fun v t1 I1 L1 R1 => v = some (.int (-((((w - a) + y) * 2) ^^^ ((w - a) + y)))) ∧ t1 = t ∧ L1 = L ∧ R1 = Rf ∧ (∀ a j, a ≠ 20 → I1 a j = I a j) ∧ XT (w_calB (w_stB (w_body (w_body J 50) 12) 6) 6) I1) := by
  refine pv_mt mgX9_knots.2.2.2.2.2 [.ref x, .int w] rfl (Nat.le_of_ble_eq_true rfl) ?_
  have hI : ∀ a j, a ≠ 20 → I a j = I a j := fun _ _ _ => rfl
  refine pv_aload_0 (pc := 0) dX9_knots_0 ?_
  refine pv_bipush (pc := 1) (v := 50) dX9_knots_1 (by decide) ?_
  refine pv_callUq (pc := 3) dX9_knots_3 mgX3_ran lu_X9_19_6 (by omega) hs (by omega) (c_X3_ran_6 hT hx hs hb f1 f2 hk (hn.mo (by omega))) rfl rfl (by decide) (fun v t I L Rf hq => ?_)
  obtain ⟨rfl, rfl, rfl, rfl, hI2, hk⟩ := hq
  have f1 := (hI2 x 1 (by omega)).trans f1
  have f2 := (hI2 x 2 (by omega)).trans f2
  have hI := fun (a j : Nat) (q : a ≠ 20) => (hI2 a j q).trans (hI a j q)
  have hn := hn.bo 50 (by omega)
  refine pv_aload_0 (pc := 6) dX9_knots_6 ?_
  refine pv_iload_1 (pc := 7) dX9_knots_7 ?_
  refine pv_callSUq (pc := 8) dX9_knots_8 mgX3_knots lsu_X9_22 (by omega) hs (by omega) (c_X3_knots_6 hT hx hs hb f1 f2 hk (hn.mo (by omega)) (by omega)) rfl rfl (by decide) (fun v t I L Rf hq => ?_)
  obtain ⟨rfl, rfl, rfl, rfl, hI2, hk⟩ := hq
  have f1 := (hI2 x 1 (by omega)).trans f1
  have f2 := (hI2 x 2 (by omega)).trans f2
  have hI := fun (a j : Nat) (q : a ≠ 20) => (hI2 a j q).trans (hI a j q)
  have hn := hn
  refine pv_ineg (pc := 11) dX9_knots_11 ?_
  refine pv_iret (pc := 12) dX9_knots_12 rfl rfl ?_
  refine ⟨?_, rfl, rfl, rfl, hI, hk⟩
  first | rfl | (rw [f1]; done) | (rw [f2]; done) | (rw [f1, f2]; done)

set_option maxRecDepth 100000 in
set_option maxHeartbeats 4000000 in
theorem c_X6_knots_6 {G : pv_G} {d : Nat} {x : Nat} {y a w : Int32} {J : pv_I} {t : pv_T} {I : pv_I} {L : pv_L} {Rf : pv_R} (hT : sh_ok t) (hx : 90 ≤ x) (hs : t.1 x = some (.inr 6)) (hb : Rf x 4 = some 20) (f1 : I x 1 = y) (f2 : I x 2 = a) (hk : XT J I) (hn : XN 36 J) (hd : 14 ≤ d) : pv_Mt G mX6_knots d 0 0 [.ref x, .int w] t I L Rf (fun v t1 I1 L1 R1 => v = some (.int ((-((((w - a) + y) * 2) ^^^ ((w - a) + y))) ^^^ 5)) ∧ t1 = t ∧ L1 = L ∧ R1 = Rf ∧ (∀ a j, a ≠ 20 → I1 a j = I a j) ∧ XT (w_calB (w_stB (w_body (w_body (w_body J 70) 50) 12) 6) 6) I1) := by
  refine pv_mt mgX6_knots.2.2.2.2.2 [.ref x, .int w] rfl (Nat.le_of_ble_eq_true rfl) ?_
  have hI : ∀ a j, a ≠ 20 → I a j = I a j := fun _ _ _ => rfl
  refine pv_aload_0 (pc := 0) dX6_knots_0 ?_
  refine pv_bipush (pc := 1) (v := 70) dX6_knots_1 (by decide) ?_
  refine pv_callUq (pc := 3) dX6_knots_3 mgX3_ran lu_X6_13_6 (by omega) hs (by omega) (c_X3_ran_6 hT hx hs hb f1 f2 hk (hn.mo (by omega))) rfl rfl (by decide) (fun v t I L Rf hq => ?_)
  obtain ⟨rfl, rfl, rfl, rfl, hI2, hk⟩ := hq
  have f1 := (hI2 x 1 (by omega)).trans f1
  have f2 := (hI2 x 2 (by omega)).trans f2
  have hI := fun (a j : Nat) (q : a ≠ 20) => (hI2 a j q).trans (hI a j q)
  have hn := hn.bo 70 (by omega)
  refine pv_aload_0 (pc := 6) dX6_knots_6 ?_
  refine pv_iload_1 (pc := 7) dX6_knots_7 ?_
  refine pv_callSUq (pc := 8) dX6_knots_8 mgX9_knots lsu_X6_17 (by omega) hs (by omega) (c_X9_knots_6 hT hx hs hb f1 f2 hk (hn.mo (by omega)) (by omega)) rfl rfl (by decide) (fun v t I L Rf hq => ?_)
  obtain ⟨rfl, rfl, rfl, rfl, hI2, hk⟩ := hq
  have f1 := (hI2 x 1 (by omega)).trans f1
  have f2 := (hI2 x 2 (by omega)).trans f2
  have hI := fun (a j : Nat) (q : a ≠ 20) => (hI2 a j q).trans (hI a j q)
  have hn := hn
  refine pv_iconst (pc := 11) (v := 5) dX6_knots_11 (by decide) ?_
  refine pv_ixor (pc := 12) dX6_knots_12 ?_
  refine pv_iret (pc := 13) dX6_knots_13 rfl rfl ?_
  refine ⟨?_, rfl, rfl, rfl, hI, hk⟩
  first | rfl | (rw [f1]; done) | (rw [f2]; done) | (rw [f1, f2]; done)

theorem w_kb_6 (J : pv_I) : w_knB J 6 = w_calB (w_stB (w_body (w_body (w_body J 70) 50) 12) 6) 6 := by unfold w_knB w_knC; simp [s_isT]
theorem c_knots_6 {G : pv_G} {d : Nat} {x : Nat} {y a w : Int32} {J : pv_I} {t : pv_T} {I : pv_I} {L : pv_L} {Rf : pv_R} (hT : sh_ok t) (hx : 90 ≤ x) (hs : t.1 x = some (.inr 6)) (hb : Rf x 4 = some 20) (f1 : I x 1 = y) (f2 : I x 2 = a) (hk : XT J I) (hn : XN 30 J) (hd : 14 ≤ d) : pv_Mt G mX6_knots d 0 0 [.ref x, .int w] t I L Rf (fun v t1 I1 L1 R1 => v = some (.int ((-((((w - a) + y) * 2) ^^^ ((w - a) + y))) ^^^ 5)) ∧ t1 = t ∧ L1 = L ∧ R1 = Rf ∧ (∀ a j, a ≠ 20 → I1 a j = I a j) ∧ XT (w_knB J 6) I1) := by
  rw [w_kb_6]
  exact c_X6_knots_6 hT hx hs hb f1 f2 hk (hn.mo (by omega)) (by omega)
set_option maxRecDepth 100000 in
set_option maxHeartbeats 4000000 in
theorem c_X3_calls_9 {G : pv_G} {d : Nat} {x : Nat} {y a w : Int32} {J : pv_I} {t : pv_T} {I : pv_I} {L : pv_L} {Rf : pv_R} (hT : sh_ok t) (hx : 90 ≤ x) (hs : t.1 x = some (.inr 9)) (hb : Rf x 4 = some 20) (f1 : I x 1 = y) (f2 : I x 2 = a) (hk : XT J I) (hn : XN 80 J) (hd : 2 ≤ d) : pv_Mt G mX3_calls d 0 0 [.ref x, .int w] t I L Rf (fun v t1 I1 L1 R1 => v = some (.int (w + y)) ∧ t1 = t ∧ L1 = L ∧ R1 = Rf ∧ (∀ a j, a ≠ 20 → I1 a j = I a j) ∧ XT (w_body J 10) I1) := by
  refine pv_mt mgX3_calls.2.2.2.2.2 [.ref x, .int w] rfl (Nat.le_of_ble_eq_true rfl) ?_
  have hI : ∀ a j, a ≠ 20 → I a j = I a j := fun _ _ _ => rfl
  refine pv_aload_0 (pc := 0) dX3_calls_0 ?_
  refine pv_bipush (pc := 1) (v := 10) dX3_calls_1 (by decide) ?_
  refine pv_callUq (pc := 3) dX3_calls_3 mgX3_ran lu_X3_26_9 (by omega) hs (by omega) (c_X3_ran_9 hT hx hs hb f1 f2 hk (hn.mo (by omega))) rfl rfl (by decide) (fun v t I L Rf hq => ?_)
  obtain ⟨rfl, rfl, rfl, rfl, hI2, hk⟩ := hq
  have f1 := (hI2 x 1 (by omega)).trans f1
  have f2 := (hI2 x 2 (by omega)).trans f2
  have hI := fun (a j : Nat) (q : a ≠ 20) => (hI2 a j q).trans (hI a j q)
  have hn := hn.bo 10 (by omega)
  refine pv_iload_1 (pc := 6) dX3_calls_6 ?_
  refine pv_aload_0 (pc := 7) dX3_calls_7 ?_
  refine pv_getI (pc := 8) dX3_calls_8 fg_X3_13_9 rfl (by omega) hs ?_
  refine pv_iadd (pc := 11) dX3_calls_11 ?_
  refine pv_iret (pc := 12) dX3_calls_12 rfl rfl ?_
  refine ⟨?_, rfl, rfl, rfl, hI, hk⟩
  first | rfl | (rw [f1]; done) | (rw [f2]; done) | (rw [f1, f2]; done)

theorem w_cb_4 (J : pv_I) : w_calB J 4 = w_body J 10 := by unfold w_calB; simp [s_isC]
theorem c_calls_9 {G : pv_G} {d : Nat} {x : Nat} {y a w : Int32} {J : pv_I} {t : pv_T} {I : pv_I} {L : pv_L} {Rf : pv_R} (hT : sh_ok t) (hx : 90 ≤ x) (hs : t.1 x = some (.inr 9)) (hb : Rf x 4 = some 20) (f1 : I x 1 = y) (f2 : I x 2 = a) (hk : XT J I) (hn : XN 70 J) (hd : 4 ≤ d) : pv_Mt G mX3_calls d 0 0 [.ref x, .int w] t I L Rf (fun v t1 I1 L1 R1 => v = some (.int (w + y)) ∧ t1 = t ∧ L1 = L ∧ R1 = Rf ∧ (∀ a j, a ≠ 20 → I1 a j = I a j) ∧ XT (w_calB (J) 4) I1) := by
  rw [w_cb_4]
  exact c_X3_calls_9 hT hx hs hb f1 f2 hk (hn.mo (by omega)) (by omega)
set_option maxRecDepth 100000 in
set_option maxHeartbeats 4000000 in
theorem c_X3_steps_9 {G : pv_G} {d : Nat} {x : Nat} {y a w : Int32} {J : pv_I} {t : pv_T} {I : pv_I} {L : pv_L} {Rf : pv_R} (hT : sh_ok t) (hx : 90 ≤ x) (hs : t.1 x = some (.inr 9)) (hb : Rf x 4 = some 20) (f1 : I x 1 = y) (f2 : I x 2 = a) (hk : XT J I) (hn : XN 60 J) (hd : 6 ≤ d) : pv_Mt G mX3_steps d 0 0 [.ref x, .int w] t I L Rf (fun v t1 I1 L1 R1 => v = some (.int ((w + y) * 2)) ∧ t1 = t ∧ L1 = L ∧ R1 = Rf ∧ (∀ a j, a ≠ 20 → I1 a j = I a j) ∧ XT (w_calB (w_body J 11) 4) I1) := by
  refine pv_mt mgX3_steps.2.2.2.2.2 [.ref x, .int w] rfl (Nat.le_of_ble_eq_true rfl) ?_
  have hI : ∀ a j, a ≠ 20 → I a j = I a j := fun _ _ _ => rfl
  refine pv_aload_0 (pc := 0) dX3_steps_0 ?_
  refine pv_bipush (pc := 1) (v := 11) dX3_steps_1 (by decide) ?_
  refine pv_callUq (pc := 3) dX3_steps_3 mgX3_ran lu_X3_26_9 (by omega) hs (by omega) (c_X3_ran_9 hT hx hs hb f1 f2 hk (hn.mo (by omega))) rfl rfl (by decide) (fun v t I L Rf hq => ?_)
  obtain ⟨rfl, rfl, rfl, rfl, hI2, hk⟩ := hq
  have f1 := (hI2 x 1 (by omega)).trans f1
  have f2 := (hI2 x 2 (by omega)).trans f2
  have hI := fun (a j : Nat) (q : a ≠ 20) => (hI2 a j q).trans (hI a j q)
  have hn := hn.bo 11 (by omega)
  refine pv_aload_0 (pc := 6) dX3_steps_6 ?_
  refine pv_iload_1 (pc := 7) dX3_steps_7 ?_
  refine pv_callUq (pc := 8) dX3_steps_8 mgX3_calls lu_X3_30_9 (by omega) hs (by omega) (c_calls_9 hT hx hs hb f1 f2 hk (hn.mo (by omega)) (by omega)) rfl rfl (by decide) (fun v t I L Rf hq => ?_)
  obtain ⟨rfl, rfl, rfl, rfl, hI2, hk⟩ := hq
  have f1 := (hI2 x 1 (by omega)).trans f1
  have f2 := (hI2 x 2 (by omega)).trans f2
  have hI := fun (a j : Nat) (q : a ≠ 20) => (hI2 a j q).trans (hI a j q)
  have hn := hn.cal 4 (by omega)
  refine pv_iconst (pc := 11) (v := 2) dX3_steps_11 (by decide) ?_
  refine pv_imul (pc := 12) dX3_steps_12 ?_
  refine pv_iret (pc := 13) dX3_steps_13 rfl rfl ?_
  refine ⟨?_, rfl, rfl, rfl, hI, hk⟩
  first | rfl | (rw [f1]; done) | (rw [f2]; done) | (rw [f1, f2]; done)

theorem w_sb_4 (J : pv_I) : w_stB J 4 = w_calB (w_body J 11) 4 := by unfold w_stB; simp
theorem c_steps_9 {G : pv_G} {d : Nat} {x : Nat} {y a w : Int32} {J : pv_I} {t : pv_T} {I : pv_I} {L : pv_L} {Rf : pv_R} (hT : sh_ok t) (hx : 90 ≤ x) (hs : t.1 x = some (.inr 9)) (hb : Rf x 4 = some 20) (f1 : I x 1 = y) (f2 : I x 2 = a) (hk : XT J I) (hn : XN 50 J) (hd : 8 ≤ d) : pv_Mt G mX3_steps d 0 0 [.ref x, .int w] t I L Rf (fun v t1 I1 L1 R1 => v = some (.int ((w + y) * 2)) ∧ t1 = t ∧ L1 = L ∧ R1 = Rf ∧ (∀ a j, a ≠ 20 → I1 a j = I a j) ∧ XT (w_stB J 4) I1) := by
  rw [w_sb_4]
  exact c_X3_steps_9 hT hx hs hb f1 f2 hk (hn.mo (by omega)) (by omega)
set_option maxRecDepth 100000 in
set_option maxHeartbeats 4000000 in
theorem c_X3_knots_9 {G : pv_G} {d : Nat} {x : Nat} {y a w : Int32} {J : pv_I} {t : pv_T} {I : pv_I} {L : pv_L} {Rf : pv_R} (hT : sh_ok t) (hx : 90 ≤ x) (hs : t.1 x = some (.inr 9)) (hb : Rf x 4 = some 20) (f1 : I x 1 = y) (f2 : I x 2 = a) (hk : XT J I) (hn : XN 40 J) (hd : 10 ≤ d) : pv_Mt G mX3_knots d 0 0 [.ref x, .int w] t I L Rf (fun v t1 I1 L1 R1 => v = some (.int (((w + y) * 2) ^^^ ((w - a) + y))) ∧ t1 = t ∧ L1 = L ∧ R1 = Rf ∧ (∀ a j, a ≠ 20 → I1 a j = I a j) ∧ XT (w_calB (w_stB (w_body J 12) 4) 4) I1) := by
  refine pv_mt mgX3_knots.2.2.2.2.2 [.ref x, .int w] rfl (Nat.le_of_ble_eq_true rfl) ?_
  have hI : ∀ a j, a ≠ 20 → I a j = I a j := fun _ _ _ => rfl
  refine pv_aload_0 (pc := 0) dX3_knots_0 ?_
  refine pv_bipush (pc := 1) (v := 12) dX3_knots_1 (by decide) ?_
  refine pv_callUq (pc := 3) dX3_knots_3 mgX3_ran lu_X3_26_9 (by omega) hs (by omega) (c_X3_ran_9 hT hx hs hb f1 f2 hk (hn.mo (by omega))) rfl rfl (by decide) (fun v t I L Rf hq => ?_)
  obtain ⟨rfl, rfl, rfl, rfl, hI2, hk⟩ := hq
  have f1 := (hI2 x 1 (by omega)).trans f1
  have f2 := (hI2 x 2 (by omega)).trans f2
  have hI := fun (a j : Nat) (q : a ≠ 20) => (hI2 a j q).trans (hI a j q)
  have hn := hn.bo 12 (by omega)
  refine pv_aload_0 (pc := 6) dX3_knots_6 ?_
  refine pv_iload_1 (pc := 7) dX3_knots_7 ?_
  refine pv_callUq (pc := 8) dX3_knots_8 mgX3_steps lu_X3_34_9 (by omega) hs (by omega) (c_steps_9 hT hx hs hb f1 f2 hk (hn.mo (by omega)) (by omega)) rfl rfl (by decide) (fun v t I L Rf hq => ?_)
  obtain ⟨rfl, rfl, rfl, rfl, hI2, hk⟩ := hq
  have f1 := (hI2 x 1 (by omega)).trans f1
  have f2 := (hI2 x 2 (by omega)).trans f2
  have hI := fun (a j : Nat) (q : a ≠ 20) => (hI2 a j q).trans (hI a j q)
  have hn := hn.st 4 (by omega)
  refine pv_aload_0 (pc := 11) dX3_knots_11 ?_
  refine pv_iload_1 (pc := 12) dX3_knots_12 ?_
  refine pv_aload_0 (pc := 13) dX3_knots_13 ?_
  refine pv_getI (pc := 14) dX3_knots_14 fg_X3_16_9 rfl (by omega) hs ?_
  refine pv_isub (pc := 17) dX3_knots_17 ?_
  rw [f2]
  refine pv_callUq (pc := 18) dX3_knots_18 mgX3_calls lu_X3_30_9 (by omega) hs (by omega) (c_calls_9 hT hx hs hb f1 f2 hk (hn.mo (by omega)) (by omega)) rfl rfl (Nat.le_of_ble_eq_true rfl) (fun v t I L Rf hq => ?_)
  obtain ⟨rfl, rfl, rfl, rfl, hI2, hk⟩ := hq
  have f1 := (hI2 x 1 (by omega)).trans f1
  have f2 := (hI2 x 2 (by omega)).trans f2
  have hI := fun (a j : Nat) (q : a ≠ 20) => (hI2 a j q).trans (hI a j q)
  have hn := hn.cal 4 (by omega)
  refine pv_ixor (pc := 21) dX3_knots_21 ?_
  refine pv_iret (pc := 22) dX3_knots_22 rfl rfl ?_
  refine ⟨?_, rfl, rfl, rfl, hI, hk⟩
  first | rfl | (rw [f1]; done) | (rw [f2]; done) | (rw [f1, f2]; done)

set_option maxRecDepth 100000 in
set_option maxHeartbeats 4000000 in
theorem c_X9_knots_9 {G : pv_G} {d : Nat} {x : Nat} {y a w : Int32} {J : pv_I} {t : pv_T} {I : pv_I} {L : pv_L} {Rf : pv_R} (hT : sh_ok t) (hx : 90 ≤ x) (hs : t.1 x = some (.inr 9)) (hb : Rf x 4 = some 20) (f1 : I x 1 = y) (f2 : I x 2 = a) (hk : XT J I) (hn : XN 38 J) (hd : 12 ≤ d) : pv_Mt G mX9_knots d 0 0 [.ref x, .int w] t I L Rf (fun v t1 I1 L1 R1 => v = some (.int (-(((w + y) * 2) ^^^ ((w - a) + y)))) ∧ t1 = t ∧ L1 = L ∧ R1 = Rf ∧ (∀ a j, a ≠ 20 → I1 a j = I a j) ∧ XT (w_calB (w_stB (w_body (w_body J 50) 12) 4) 4) I1) := by
  refine pv_mt mgX9_knots.2.2.2.2.2 [.ref x, .int w] rfl (Nat.le_of_ble_eq_true rfl) ?_
  have hI : ∀ a j, a ≠ 20 → I a j = I a j := fun _ _ _ => rfl
  refine pv_aload_0 (pc := 0) dX9_knots_0 ?_
  refine pv_bipush (pc := 1) (v := 50) dX9_knots_1 (by decide) ?_
  refine pv_callUq (pc := 3) dX9_knots_3 mgX3_ran lu_X9_19_9 (by omega) hs (by omega) (c_X3_ran_9 hT hx hs hb f1 f2 hk (hn.mo (by omega))) rfl rfl (by decide) (fun v t I L Rf hq => ?_)
  obtain ⟨rfl, rfl, rfl, rfl, hI2, hk⟩ := hq
  have f1 := (hI2 x 1 (by omega)).trans f1
  have f2 := (hI2 x 2 (by omega)).trans f2
  have hI := fun (a j : Nat) (q : a ≠ 20) => (hI2 a j q).trans (hI a j q)
  have hn := hn.bo 50 (by omega)
  refine pv_aload_0 (pc := 6) dX9_knots_6 ?_
  refine pv_iload_1 (pc := 7) dX9_knots_7 ?_
  refine pv_callSUq (pc := 8) dX9_knots_8 mgX3_knots lsu_X9_22 (by omega) hs (by omega) (c_X3_knots_9 hT hx hs hb f1 f2 hk (hn.mo (by omega)) (by omega)) rfl rfl (by decide) (fun v t I L Rf hq => ?_)
  obtain ⟨rfl, rfl, rfl, rfl, hI2, hk⟩ := hq
  have f1 := (hI2 x 1 (by omega)).trans f1
  have f2 := (hI2 x 2 (by omega)).trans f2
  have hI := fun (a j : Nat) (q : a ≠ 20) => (hI2 a j q).trans (hI a j q)
  have hn := hn
  refine pv_ineg (pc := 11) dX9_knots_11 ?_
  refine pv_iret (pc := 12) dX9_knots_12 rfl rfl ?_
  refine ⟨?_, rfl, rfl, rfl, hI, hk⟩
  first | rfl | (rw [f1]; done) | (rw [f2]; done) | (rw [f1, f2]; done)

theorem w_kb_4 (J : pv_I) : w_knB J 4 = w_calB (w_stB (w_body (w_body J 50) 12) 4) 4 := by unfold w_knB w_knC; simp [s_isT]
theorem c_knots_9 {G : pv_G} {d : Nat} {x : Nat} {y a w : Int32} {J : pv_I} {t : pv_T} {I : pv_I} {L : pv_L} {Rf : pv_R} (hT : sh_ok t) (hx : 90 ≤ x) (hs : t.1 x = some (.inr 9)) (hb : Rf x 4 = some 20) (f1 : I x 1 = y) (f2 : I x 2 = a) (hk : XT J I) (hn : XN 30 J) (hd : 14 ≤ d) : pv_Mt G mX9_knots d 0 0 [.ref x, .int w] t I L Rf (fun v t1 I1 L1 R1 => v = some (.int (-(((w + y) * 2) ^^^ ((w - a) + y)))) ∧ t1 = t ∧ L1 = L ∧ R1 = Rf ∧ (∀ a j, a ≠ 20 → I1 a j = I a j) ∧ XT (w_knB J 4) I1) := by
  rw [w_kb_4]
  exact c_X9_knots_9 hT hx hs hb f1 f2 hk (hn.mo (by omega)) (by omega)
set_option maxRecDepth 100000 in
set_option maxHeartbeats 4000000 in
theorem c_X3_calls_10 {G : pv_G} {d : Nat} {x : Nat} {y a w : Int32} {J : pv_I} {t : pv_T} {I : pv_I} {L : pv_L} {Rf : pv_R} (hT : sh_ok t) (hx : 90 ≤ x) (hs : t.1 x = some (.inr 10)) (hb : Rf x 4 = some 20) (f1 : I x 1 = y) (f2 : I x 2 = a) (hk : XT J I) (hn : XN 80 J) (hd : 2 ≤ d) : pv_Mt G mX3_calls d 0 0 [.ref x, .int w] t I L Rf (fun v t1 I1 L1 R1 => v = some (.int (w + y)) ∧ t1 = t ∧ L1 = L ∧ R1 = Rf ∧ (∀ a j, a ≠ 20 → I1 a j = I a j) ∧ XT (w_body J 10) I1) := by
  refine pv_mt mgX3_calls.2.2.2.2.2 [.ref x, .int w] rfl (Nat.le_of_ble_eq_true rfl) ?_
  have hI : ∀ a j, a ≠ 20 → I a j = I a j := fun _ _ _ => rfl
  refine pv_aload_0 (pc := 0) dX3_calls_0 ?_
  refine pv_bipush (pc := 1) (v := 10) dX3_calls_1 (by decide) ?_
  refine pv_callUq (pc := 3) dX3_calls_3 mgX3_ran lu_X3_26_10 (by omega) hs (by omega) (c_X3_ran_10 hT hx hs hb f1 f2 hk (hn.mo (by omega))) rfl rfl (by decide) (fun v t I L Rf hq => ?_)
  obtain ⟨rfl, rfl, rfl, rfl, hI2, hk⟩ := hq
  have f1 := (hI2 x 1 (by omega)).trans f1
  have f2 := (hI2 x 2 (by omega)).trans f2
  have hI := fun (a j : Nat) (q : a ≠ 20) => (hI2 a j q).trans (hI a j q)
  have hn := hn.bo 10 (by omega)
  refine pv_iload_1 (pc := 6) dX3_calls_6 ?_
  refine pv_aload_0 (pc := 7) dX3_calls_7 ?_
  refine pv_getI (pc := 8) dX3_calls_8 fg_X3_13_10 rfl (by omega) hs ?_
  refine pv_iadd (pc := 11) dX3_calls_11 ?_
  refine pv_iret (pc := 12) dX3_calls_12 rfl rfl ?_
  refine ⟨?_, rfl, rfl, rfl, hI, hk⟩
  first | rfl | (rw [f1]; done) | (rw [f2]; done) | (rw [f1, f2]; done)

set_option maxRecDepth 100000 in
set_option maxHeartbeats 4000000 in
theorem c_X1_calls_10 {G : pv_G} {d : Nat} {x : Nat} {y a w : Int32} {J : pv_I} {t : pv_T} {I : pv_I} {L : pv_L} {Rf : pv_R} (hT : sh_ok t) (hx : 90 ≤ x) (hs : t.1 x = some (.inr 10)) (hb : Rf x 4 = some 20) (f1 : I x 1 = y) (f2 : I x 2 = a) (hk : XT J I) (hn : XN 78 J) (hd : 4 ≤ d) : pv_Mt G mX1_calls d 0 0 [.ref x, .int w] t I L Rf (fun v t1 I1 L1 R1 => v = some (.int (w + y + a)) ∧ t1 = t ∧ L1 = L ∧ R1 = Rf ∧ (∀ a j, a ≠ 20 → I1 a j = I a j) ∧ XT (w_body (w_body J 20) 10) I1) := by
  refine pv_mt mgX1_calls.2.2.2.2.2 [.ref x, .int w] rfl (Nat.le_of_ble_eq_true rfl) ?_
  have hI : ∀ a j, a ≠ 20 → I a j = I a j := fun _ _ _ => rfl
  refine pv_aload_0 (pc := 0) dX1_calls_0 ?_
  refine pv_bipush (pc := 1) (v := 20) dX1_calls_1 (by decide) ?_
  refine pv_callUq (pc := 3) dX1_calls_3 mgX3_ran lu_X1_19_10 (by omega) hs (by omega) (c_X3_ran_10 hT hx hs hb f1 f2 hk (hn.mo (by omega))) rfl rfl (by decide) (fun v t I L Rf hq => ?_)
  obtain ⟨rfl, rfl, rfl, rfl, hI2, hk⟩ := hq
  have f1 := (hI2 x 1 (by omega)).trans f1
  have f2 := (hI2 x 2 (by omega)).trans f2
  have hI := fun (a j : Nat) (q : a ≠ 20) => (hI2 a j q).trans (hI a j q)
  have hn := hn.bo 20 (by omega)
  refine pv_aload_0 (pc := 6) dX1_calls_6 ?_
  refine pv_iload_1 (pc := 7) dX1_calls_7 ?_
  refine pv_callSUq (pc := 8) dX1_calls_8 mgX3_calls lsu_X1_23 (by omega) hs (by omega) (c_X3_calls_10 hT hx hs hb f1 f2 hk (hn.mo (by omega)) (by omega)) rfl rfl (by decide) (fun v t I L Rf hq => ?_)
  obtain ⟨rfl, rfl, rfl, rfl, hI2, hk⟩ := hq
  have f1 := (hI2 x 1 (by omega)).trans f1
  have f2 := (hI2 x 2 (by omega)).trans f2
  have hI := fun (a j : Nat) (q : a ≠ 20) => (hI2 a j q).trans (hI a j q)
  have hn := hn.bo 10 (by omega)
  refine pv_aload_0 (pc := 11) dX1_calls_11 ?_
  refine pv_getI (pc := 12) dX1_calls_12 fg_X1_27_10 rfl (by omega) hs ?_
  refine pv_iadd (pc := 15) dX1_calls_15 ?_
  refine pv_iret (pc := 16) dX1_calls_16 rfl rfl ?_
  refine ⟨?_, rfl, rfl, rfl, hI, hk⟩
  first | rfl | (rw [f1]; done) | (rw [f2]; done) | (rw [f1, f2]; done)

theorem w_cb_2 (J : pv_I) : w_calB J 2 = w_body (w_body J 20) 10 := by unfold w_calB; simp [s_isC]
theorem c_calls_10 {G : pv_G} {d : Nat} {x : Nat} {y a w : Int32} {J : pv_I} {t : pv_T} {I : pv_I} {L : pv_L} {Rf : pv_R} (hT : sh_ok t) (hx : 90 ≤ x) (hs : t.1 x = some (.inr 10)) (hb : Rf x 4 = some 20) (f1 : I x 1 = y) (f2 : I x 2 = a) (hk : XT J I) (hn : XN 70 J) (hd : 4 ≤ d) : pv_Mt G mX1_calls d 0 0 [.ref x, .int w] t I L Rf (fun v t1 I1 L1 R1 => v = some (.int (w + y + a)) ∧ t1 = t ∧ L1 = L ∧ R1 = Rf ∧ (∀ a j, a ≠ 20 → I1 a j = I a j) ∧ XT (w_calB (J) 2) I1) := by
  rw [w_cb_2]
  exact c_X1_calls_10 hT hx hs hb f1 f2 hk (hn.mo (by omega)) (by omega)
set_option maxRecDepth 100000 in
set_option maxHeartbeats 4000000 in
theorem c_X3_steps_10 {G : pv_G} {d : Nat} {x : Nat} {y a w : Int32} {J : pv_I} {t : pv_T} {I : pv_I} {L : pv_L} {Rf : pv_R} (hT : sh_ok t) (hx : 90 ≤ x) (hs : t.1 x = some (.inr 10)) (hb : Rf x 4 = some 20) (f1 : I x 1 = y) (f2 : I x 2 = a) (hk : XT J I) (hn : XN 60 J) (hd : 6 ≤ d) : pv_Mt G mX3_steps d 0 0 [.ref x, .int w] t I L Rf (fun v t1 I1 L1 R1 => v = some (.int ((w + y + a) * 2)) ∧ t1 = t ∧ L1 = L ∧ R1 = Rf ∧ (∀ a j, a ≠ 20 → I1 a j = I a j) ∧ XT (w_calB (w_body J 11) 2) I1) := by
  refine pv_mt mgX3_steps.2.2.2.2.2 [.ref x, .int w] rfl (Nat.le_of_ble_eq_true rfl) ?_
  have hI : ∀ a j, a ≠ 20 → I a j = I a j := fun _ _ _ => rfl
  refine pv_aload_0 (pc := 0) dX3_steps_0 ?_
  refine pv_bipush (pc := 1) (v := 11) dX3_steps_1 (by decide) ?_
  refine pv_callUq (pc := 3) dX3_steps_3 mgX3_ran lu_X3_26_10 (by omega) hs (by omega) (c_X3_ran_10 hT hx hs hb f1 f2 hk (hn.mo (by omega))) rfl rfl (by decide) (fun v t I L Rf hq => ?_)
  obtain ⟨rfl, rfl, rfl, rfl, hI2, hk⟩ := hq
  have f1 := (hI2 x 1 (by omega)).trans f1
  have f2 := (hI2 x 2 (by omega)).trans f2
  have hI := fun (a j : Nat) (q : a ≠ 20) => (hI2 a j q).trans (hI a j q)
  have hn := hn.bo 11 (by omega)
  refine pv_aload_0 (pc := 6) dX3_steps_6 ?_
  refine pv_iload_1 (pc := 7) dX3_steps_7 ?_
  refine pv_callUq (pc := 8) dX3_steps_8 mgX1_calls lu_X3_30_10 (by omega) hs (by omega) (c_calls_10 hT hx hs hb f1 f2 hk (hn.mo (by omega)) (by omega)) rfl rfl (by decide) (fun v t I L Rf hq => ?_)
  obtain ⟨rfl, rfl, rfl, rfl, hI2, hk⟩ := hq
  have f1 := (hI2 x 1 (by omega)).trans f1
  have f2 := (hI2 x 2 (by omega)).trans f2
  have hI := fun (a j : Nat) (q : a ≠ 20) => (hI2 a j q).trans (hI a j q)
  have hn := hn.cal 2 (by omega)
  refine pv_iconst (pc := 11) (v := 2) dX3_steps_11 (by decide) ?_
  refine pv_imul (pc := 12) dX3_steps_12 ?_
  refine pv_iret (pc := 13) dX3_steps_13 rfl rfl ?_
  refine ⟨?_, rfl, rfl, rfl, hI, hk⟩
  first | rfl | (rw [f1]; done) | (rw [f2]; done) | (rw [f1, f2]; done)

set_option maxRecDepth 100000 in
set_option maxHeartbeats 4000000 in
theorem c_X10_steps_10 {G : pv_G} {d : Nat} {x : Nat} {y a w : Int32} {J : pv_I} {t : pv_T} {I : pv_I} {L : pv_L} {Rf : pv_R} (hT : sh_ok t) (hx : 90 ≤ x) (hs : t.1 x = some (.inr 10)) (hb : Rf x 4 = some 20) (f1 : I x 1 = y) (f2 : I x 2 = a) (hk : XT J I) (hn : XN 58 J) (hd : 8 ≤ d) : pv_Mt G mX10_steps d 0 0 [.ref x, .int w] t I L Rf (fun v t1 I1 L1 R1 => v = some (.int ((w + y + a) * 2 * 3)) ∧ t1 = t ∧ L1 = L ∧ R1 = Rf ∧ (∀ a j, a ≠ 20 → I1 a j = I a j) ∧ XT (w_calB (w_body (w_body J 30) 11) 2) I1) := by
  refine pv_mt mgX10_steps.2.2.2.2.2 [.ref x, .int w] rfl (Nat.le_of_ble_eq_true rfl) ?_
  have hI : ∀ a j, a ≠ 20 → I a j = I a j := fun _ _ _ => rfl
  refine pv_aload_0 (pc := 0) dX10_steps_0 ?_
  refine pv_bipush (pc := 1) (v := 30) dX10_steps_1 (by decide) ?_
  refine pv_callUq (pc := 3) dX10_steps_3 mgX3_ran lu_X10_7_10 (by omega) hs (by omega) (c_X3_ran_10 hT hx hs hb f1 f2 hk (hn.mo (by omega))) rfl rfl (by decide) (fun v t I L Rf hq => ?_)
  obtain ⟨rfl, rfl, rfl, rfl, hI2, hk⟩ := hq
  have f1 := (hI2 x 1 (by omega)).trans f1
  have f2 := (hI2 x 2 (by omega)).trans f2
  have hI := fun (a j : Nat) (q : a ≠ 20) => (hI2 a j q).trans (hI a j q)
  have hn := hn.bo 30 (by omega)
  refine pv_aload_0 (pc := 6) dX10_steps_6 ?_
  refine pv_iload_1 (pc := 7) dX10_steps_7 ?_
  refine pv_callSXq (pc := 8) dX10_steps_8 mgX3_steps lsx_X10_13 (by omega) hs (by omega) (c_X3_steps_10 hT hx hs hb f1 f2 hk (hn.mo (by omega)) (by omega)) rfl rfl (by decide) (fun v t I L Rf hq => ?_)
  obtain ⟨rfl, rfl, rfl, rfl, hI2, hk⟩ := hq
  have f1 := (hI2 x 1 (by omega)).trans f1
  have f2 := (hI2 x 2 (by omega)).trans f2
  have hI := fun (a j : Nat) (q : a ≠ 20) => (hI2 a j q).trans (hI a j q)
  have hn := hn
  refine pv_iconst (pc := 11) (v := 3) dX10_steps_11 (by decide) ?_
  refine pv_imul (pc := 12) dX10_steps_12 ?_
  refine pv_iret (pc := 13) dX10_steps_13 rfl rfl ?_
  refine ⟨?_, rfl, rfl, rfl, hI, hk⟩
  first | rfl | (rw [f1]; done) | (rw [f2]; done) | (rw [f1, f2]; done)

theorem w_sb_2 (J : pv_I) : w_stB J 2 = w_calB (w_body (w_body J 30) 11) 2 := by unfold w_stB; simp
theorem c_steps_10 {G : pv_G} {d : Nat} {x : Nat} {y a w : Int32} {J : pv_I} {t : pv_T} {I : pv_I} {L : pv_L} {Rf : pv_R} (hT : sh_ok t) (hx : 90 ≤ x) (hs : t.1 x = some (.inr 10)) (hb : Rf x 4 = some 20) (f1 : I x 1 = y) (f2 : I x 2 = a) (hk : XT J I) (hn : XN 50 J) (hd : 8 ≤ d) : pv_Mt G mX10_steps d 0 0 [.ref x, .int w] t I L Rf (fun v t1 I1 L1 R1 => v = some (.int ((w + y + a) * 2 * 3)) ∧ t1 = t ∧ L1 = L ∧ R1 = Rf ∧ (∀ a j, a ≠ 20 → I1 a j = I a j) ∧ XT (w_stB J 2) I1) := by
  rw [w_sb_2]
  exact c_X10_steps_10 hT hx hs hb f1 f2 hk (hn.mo (by omega)) (by omega)
set_option maxRecDepth 100000 in
set_option maxHeartbeats 4000000 in
theorem c_X3_knots_10 {G : pv_G} {d : Nat} {x : Nat} {y a w : Int32} {J : pv_I} {t : pv_T} {I : pv_I} {L : pv_L} {Rf : pv_R} (hT : sh_ok t) (hx : 90 ≤ x) (hs : t.1 x = some (.inr 10)) (hb : Rf x 4 = some 20) (f1 : I x 1 = y) (f2 : I x 2 = a) (hk : XT J I) (hn : XN 40 J) (hd : 10 ≤ d) : pv_Mt G mX3_knots d 0 0 [.ref x, .int w] t I L Rf (fun v t1 I1 L1 R1 => v = some (.int (((w + y + a) * 2 * 3) ^^^ ((w - a) + y + a))) ∧ t1 = t ∧ L1 = L ∧ R1 = Rf ∧ (∀ a j, a ≠ 20 → I1 a j = I a j) ∧ XT (w_calB (w_stB (w_body J 12) 2) 2) I1) := by
  refine pv_mt mgX3_knots.2.2.2.2.2 [.ref x, .int w] rfl (Nat.le_of_ble_eq_true rfl) ?_
  have hI : ∀ a j, a ≠ 20 → I a j = I a j := fun _ _ _ => rfl
  refine pv_aload_0 (pc := 0) dX3_knots_0 ?_
  refine pv_bipush (pc := 1) (v := 12) dX3_knots_1 (by decide) ?_
  refine pv_callUq (pc := 3) dX3_knots_3 mgX3_ran lu_X3_26_10 (by omega) hs (by omega) (c_X3_ran_10 hT hx hs hb f1 f2 hk (hn.mo (by omega))) rfl rfl (by decide) (fun v t I L Rf hq => ?_)
  obtain ⟨rfl, rfl, rfl, rfl, hI2, hk⟩ := hq
  have f1 := (hI2 x 1 (by omega)).trans f1
  have f2 := (hI2 x 2 (by omega)).trans f2
  have hI := fun (a j : Nat) (q : a ≠ 20) => (hI2 a j q).trans (hI a j q)
  have hn := hn.bo 12 (by omega)
  refine pv_aload_0 (pc := 6) dX3_knots_6 ?_
  refine pv_iload_1 (pc := 7) dX3_knots_7 ?_
  refine pv_callUq (pc := 8) dX3_knots_8 mgX10_steps lu_X3_34_10 (by omega) hs (by omega) (c_steps_10 hT hx hs hb f1 f2 hk (hn.mo (by omega)) (by omega)) rfl rfl (by decide) (fun v t I L Rf hq => ?_)
  obtain ⟨rfl, rfl, rfl, rfl, hI2, hk⟩ := hq
  have f1 := (hI2 x 1 (by omega)).trans f1
  have f2 := (hI2 x 2 (by omega)).trans f2
  have hI := fun (a j : Nat) (q : a ≠ 20) => (hI2 a j q).trans (hI a j q)
  have hn := hn.st 2 (by omega)
  refine pv_aload_0 (pc := 11) dX3_knots_11 ?_
  refine pv_iload_1 (pc := 12) dX3_knots_12 ?_
  refine pv_aload_0 (pc := 13) dX3_knots_13 ?_
  refine pv_getI (pc := 14) dX3_knots_14 fg_X3_16_10 rfl (by omega) hs ?_
  refine pv_isub (pc := 17) dX3_knots_17 ?_
  rw [f2]
  refine pv_callUq (pc := 18) dX3_knots_18 mgX1_calls lu_X3_30_10 (by omega) hs (by omega) (c_calls_10 hT hx hs hb f1 f2 hk (hn.mo (by omega)) (by omega)) rfl rfl (Nat.le_of_ble_eq_true rfl) (fun v t I L Rf hq => ?_)
  obtain ⟨rfl, rfl, rfl, rfl, hI2, hk⟩ := hq
  have f1 := (hI2 x 1 (by omega)).trans f1
  have f2 := (hI2 x 2 (by omega)).trans f2
  have hI := fun (a j : Nat) (q : a ≠ 20) => (hI2 a j q).trans (hI a j q)
  have hn := hn.cal 2 (by omega)
  refine pv_ixor (pc := 21) dX3_knots_21 ?_
  refine pv_iret (pc := 22) dX3_knots_22 rfl rfl ?_
  refine ⟨?_, rfl, rfl, rfl, hI, hk⟩
  first | rfl | (rw [f1]; done) | (rw [f2]; done) | (rw [f1, f2]; done)

theorem w_kb_2 (J : pv_I) : w_knB J 2 = w_calB (w_stB (w_body J 12) 2) 2 := by unfold w_knB w_knC; simp [s_isT]
theorem c_knots_10 {G : pv_G} {d : Nat} {x : Nat} {y a w : Int32} {J : pv_I} {t : pv_T} {I : pv_I} {L : pv_L} {Rf : pv_R} (hT : sh_ok t) (hx : 90 ≤ x) (hs : t.1 x = some (.inr 10)) (hb : Rf x 4 = some 20) (f1 : I x 1 = y) (f2 : I x 2 = a) (hk : XT J I) (hn : XN 30 J) (hd : 14 ≤ d) : pv_Mt G mX3_knots d 0 0 [.ref x, .int w] t I L Rf (fun v t1 I1 L1 R1 => v = some (.int (((w + y + a) * 2 * 3) ^^^ ((w - a) + y + a))) ∧ t1 = t ∧ L1 = L ∧ R1 = Rf ∧ (∀ a j, a ≠ 20 → I1 a j = I a j) ∧ XT (w_knB J 2) I1) := by
  rw [w_kb_2]
  exact c_X3_knots_10 hT hx hs hb f1 f2 hk (hn.mo (by omega)) (by omega)
set_option maxRecDepth 100000 in
set_option maxHeartbeats 4000000 in
theorem c_X11_act {G : pv_G} {d : Nat} {J : pv_I} {K : pv_L} {f ac x2 : Int32} {t : pv_T} {I : pv_I} {L : pv_L} {Rf : pv_R} (hW : WF J K) (hX : RX J K t I L Rf)  (hd : 60 ≤ d) : pv_Mt G mX11_act d 0 0 [.ref 16, .int f, .int ac, .int x2] t I L Rf (qX (S_act J K f ac x2) I L) := by
  refine pv_mt mgX11_act.2.2.2.2.2 [.ref 16, .int f, .int ac, .int x2, .retAddr 0] rfl (Nat.le_of_ble_eq_true rfl) ?_
  have hT := hX.1
  have hR := hX.2.1
  obtain ⟨-, -, ⟨xp, xq, xn, xst, xsp, xsd, xc⟩, xf, xs, xb, xi⟩ := id hX
  by_cases hF : w_isF J f
  · obtain ⟨x, fx1, fx2, fx3, fx4, fx5, fx6, fx7, fx8, hfb⟩ := xf _ (hF.nat hW).2
    have hfk := fcls_k ((hW.2.1 _ (hF.nat hW).2).1)
    have hF8 := (hF.nat hW).1
    have hFc : f < I 21 3 := by rw [xn]; exact hF.2
    rcases hfk with ⟨kk, hfc⟩ | ⟨kk, hfc⟩ | ⟨kk, hfc⟩ | ⟨kk, hfc⟩ | ⟨kk, hfc⟩ | ⟨kk, hfc⟩ | ⟨kk, hfc⟩
    all_goals rw [hfc] at fx4
    · skip
      refine pv_aload_0 (pc := 0) dX11_act_0 ?_
      refine pv_getR (pc := 1) dX11_act_1 fg_X11_25_11 rfl (by decide) (sx_16 hT) (rx_16_3 hR) ?_
      refine pv_iconst (pc := 4) (v := 0) dX11_act_4 (by decide) ?_
      refine pv_iconst (pc := 5) (v := 0) dX11_act_5 (by decide) ?_
      refine pv_iastorej (pc := 6) dX11_act_6 (by decide) (sx_20 hT) (j := 0) (by decide) (by unfold vp_in; decide) ?_
      have hXT : XT (w_r0 J) (pv_u I 20 0 0) := ⟨by rw [pv_u_eq, if_pos rfl]; rfl, fun i _ q => absurd (show (i : Int) < (0 : Int32).toInt from q) (by rw [Int32.toInt_zero]; omega)⟩
      have hXN : XN 0 (w_r0 J) := ⟨by show 0 ≤ (0 : Int32).toInt; decide, by show (0 : Int32).toInt ≤ _; decide⟩
      have hI0 : ∀ a j, a ≠ 20 → pv_u I 20 0 0 a j = I a j := fun a j q => pv_u_o _ (by omega)
      refine pv_aload_0 (pc := 7) dX11_act_7 ?_
      refine pv_aload_0 (pc := 8) dX11_act_8 ?_
      refine pv_getR (pc := 9) dX11_act_9 fg_X11_31_11 rfl (by decide) (sx_16 hT) (rx_16_4 hR) ?_
      refine pv_iload_1 (pc := 12) dX11_act_12 ?_
      refine pv_callV1 (pc := 13) dX11_act_13 mgX11_figureAt lv_X11_114_11 (by decide) (sx_16 hT) (by omega) (c_X11_figureAt1 hT hR (by decide) (sx_21 hT) hF8 hFc fx1) rfl rfl (by decide) ?_
      refine pv_astore_4 (pc := 16) dX11_act_16 (by decide) rfl ?_
      refine pv_aload_4 (pc := 18) dX11_act_18 ?_
      refine pv_ifnonnull (pc := 20) (tgt := 25) dX11_act_20 (by decide) ?_
      refine pv_iload_2 (pc := 25) dX11_act_25 ?_
      refine pv_tab3 (pc := 26) dX11_act_26 (t0 := 52) (t1 := 59) (t2 := 66) (t3 := 73) (by decide) (by decide) (by decide) (by decide) (fun h26_0 => ?_) (fun h26_1 => ?_) (fun h26_2 => ?_) (fun h26_3 => ?_)
      · refine pv_aload_4 (pc := 52) dX11_act_52 ?_
        refine pv_iload_3 (pc := 54) dX11_act_54 ?_
        refine pv_callUq (pc := 55) dX11_act_55 mgX3_calls lu_X11_328_3 (by omega) fx4 (by omega) (c_calls_3 (y := f) (a := J 2 f.toNatClampNeg) (w := x2) hT fx2 fx4 hfb ((hI0 x 1 (by omega)).trans (fx6.trans (x_fof hF))) ((hI0 x 2 (by omega)).trans fx7) hXT (hXN.mo (by omega)) (by omega)) rfl rfl (by decide) (fun v t I L Rf hq => ?_)
        obtain ⟨rfl, rfl, rfl, rfl, hI2, hk⟩ := hq
        refine pv_iret (pc := 58) dX11_act_58 rfl rfl ?_
        have ea : ac = 0 := by rw [← Int32.toInt_inj, h26_0]; decide
        subst ea
        have e : S_act J K f 0 x2 = (.int (w_calV J f.toNatClampNeg f x2), w_calB (w_r0 J) (J 1 f.toNatClampNeg), K) := by unfold S_act; rw [if_pos ⟨hF, by decide, by decide⟩]; rfl
        rw [e, kk]
        refine ⟨?_, hX.bo (JB.cal JB.r0 _) (fun a j q => (hI2 a j q).trans (hI0 a j q)) hk, kM.of (fun a j q1 q2 => (hI2 a j (by omega)).trans (hI0 a j (by omega))) (fun _ _ _ _ => rfl)⟩
        simp [w_knV, w_knT, w_stV, w_calV, kk, s_isC, s_isT]
      · refine pv_aload_4 (pc := 59) dX11_act_59 ?_
        refine pv_iload_3 (pc := 61) dX11_act_61 ?_
        refine pv_callUq (pc := 62) dX11_act_62 mgX3_steps lu_X11_331_3 (by omega) fx4 (by omega) (c_steps_3 (y := f) (a := J 2 f.toNatClampNeg) (w := x2) hT fx2 fx4 hfb ((hI0 x 1 (by omega)).trans (fx6.trans (x_fof hF))) ((hI0 x 2 (by omega)).trans fx7) hXT (hXN.mo (by omega)) (by omega)) rfl rfl (by decide) (fun v t I L Rf hq => ?_)
        obtain ⟨rfl, rfl, rfl, rfl, hI2, hk⟩ := hq
        refine pv_iret (pc := 65) dX11_act_65 rfl rfl ?_
        have ea : ac = 1 := by rw [← Int32.toInt_inj, h26_1]; decide
        subst ea
        have e : S_act J K f 1 x2 = (.int (w_stV J f.toNatClampNeg f x2), w_stB (w_r0 J) (J 1 f.toNatClampNeg), K) := by unfold S_act; rw [if_pos ⟨hF, by decide, by decide⟩]; rfl
        rw [e, kk]
        refine ⟨?_, hX.bo (JB.st JB.r0 _) (fun a j q => (hI2 a j q).trans (hI0 a j q)) hk, kM.of (fun a j q1 q2 => (hI2 a j (by omega)).trans (hI0 a j (by omega))) (fun _ _ _ _ => rfl)⟩
        simp [w_knV, w_knT, w_stV, w_calV, kk, s_isC, s_isT]
      · refine pv_aload_4 (pc := 66) dX11_act_66 ?_
        refine pv_iload_3 (pc := 68) dX11_act_68 ?_
        refine pv_callUq (pc := 69) dX11_act_69 mgX3_knots lu_X11_333_3 (by omega) fx4 (by omega) (c_knots_3 (y := f) (a := J 2 f.toNatClampNeg) (w := x2) hT fx2 fx4 hfb ((hI0 x 1 (by omega)).trans (fx6.trans (x_fof hF))) ((hI0 x 2 (by omega)).trans fx7) hXT (hXN.mo (by omega)) (by omega)) rfl rfl (by decide) (fun v t I L Rf hq => ?_)
        obtain ⟨rfl, rfl, rfl, rfl, hI2, hk⟩ := hq
        refine pv_iret (pc := 72) dX11_act_72 rfl rfl ?_
        have ea : ac = 2 := by rw [← Int32.toInt_inj, h26_2]; decide
        subst ea
        have e : S_act J K f 2 x2 = (.int (w_knV J f.toNatClampNeg f x2), w_knB (w_r0 J) (J 1 f.toNatClampNeg), K) := by unfold S_act; rw [if_pos ⟨hF, by decide, by decide⟩]; rfl
        rw [e, kk]
        refine ⟨?_, hX.bo (JB.kn JB.r0 _) (fun a j q => (hI2 a j q).trans (hI0 a j q)) hk, kM.of (fun a j q1 q2 => (hI2 a j (by omega)).trans (hI0 a j (by omega))) (fun _ _ _ _ => rfl)⟩
        simp [w_knV, w_knT, w_stV, w_calV, kk, s_isC, s_isT]
      · refine pv_iconst (pc := 73) (v := 0) dX11_act_73 (by decide) ?_
        refine pv_iret (pc := 74) dX11_act_74 rfl rfl ?_
        have e : S_act J K f ac x2 = (.int 0, w_r0 J, K) := by
          unfold S_act
          rw [if_neg]
          rintro ⟨-, g1, g2⟩
          rw [i_le, Int32.toInt_zero] at g1
          rw [i_le, show (2 : Int32).toInt = 2 by decide] at g2
          have := h26_3
          omega
        rw [e]
        exact ⟨rfl, hX.bo JB.r0 hI0 hXT, kM.of (fun a j q1 q2 => hI0 a j (by omega)) (fun _ _ _ _ => rfl)⟩
    · skip
      refine pv_aload_0 (pc := 0) dX11_act_0 ?_
      refine pv_getR (pc := 1) dX11_act_1 fg_X11_25_11 rfl (by decide) (sx_16 hT) (rx_16_3 hR) ?_
      refine pv_iconst (pc := 4) (v := 0) dX11_act_4 (by decide) ?_
      refine pv_iconst (pc := 5) (v := 0) dX11_act_5 (by decide) ?_
      refine pv_iastorej (pc := 6) dX11_act_6 (by decide) (sx_20 hT) (j := 0) (by decide) (by unfold vp_in; decide) ?_
      have hXT : XT (w_r0 J) (pv_u I 20 0 0) := ⟨by rw [pv_u_eq, if_pos rfl]; rfl, fun i _ q => absurd (show (i : Int) < (0 : Int32).toInt from q) (by rw [Int32.toInt_zero]; omega)⟩
      have hXN : XN 0 (w_r0 J) := ⟨by show 0 ≤ (0 : Int32).toInt; decide, by show (0 : Int32).toInt ≤ _; decide⟩
      have hI0 : ∀ a j, a ≠ 20 → pv_u I 20 0 0 a j = I a j := fun a j q => pv_u_o _ (by omega)
      refine pv_aload_0 (pc := 7) dX11_act_7 ?_
      refine pv_aload_0 (pc := 8) dX11_act_8 ?_
      refine pv_getR (pc := 9) dX11_act_9 fg_X11_31_11 rfl (by decide) (sx_16 hT) (rx_16_4 hR) ?_
      refine pv_iload_1 (pc := 12) dX11_act_12 ?_
      refine pv_callV1 (pc := 13) dX11_act_13 mgX11_figureAt lv_X11_114_11 (by decide) (sx_16 hT) (by omega) (c_X11_figureAt1 hT hR (by decide) (sx_21 hT) hF8 hFc fx1) rfl rfl (by decide) ?_
      refine pv_astore_4 (pc := 16) dX11_act_16 (by decide) rfl ?_
      refine pv_aload_4 (pc := 18) dX11_act_18 ?_
      refine pv_ifnonnull (pc := 20) (tgt := 25) dX11_act_20 (by decide) ?_
      refine pv_iload_2 (pc := 25) dX11_act_25 ?_
      refine pv_tab3 (pc := 26) dX11_act_26 (t0 := 52) (t1 := 59) (t2 := 66) (t3 := 73) (by decide) (by decide) (by decide) (by decide) (fun h26_0 => ?_) (fun h26_1 => ?_) (fun h26_2 => ?_) (fun h26_3 => ?_)
      · refine pv_aload_4 (pc := 52) dX11_act_52 ?_
        refine pv_iload_3 (pc := 54) dX11_act_54 ?_
        refine pv_callUq (pc := 55) dX11_act_55 mgX1_calls lu_X11_328_1 (by omega) fx4 (by omega) (c_calls_1 (y := f) (a := J 2 f.toNatClampNeg) (w := x2) hT fx2 fx4 hfb ((hI0 x 1 (by omega)).trans (fx6.trans (x_fof hF))) ((hI0 x 2 (by omega)).trans fx7) hXT (hXN.mo (by omega)) (by omega)) rfl rfl (by decide) (fun v t I L Rf hq => ?_)
        obtain ⟨rfl, rfl, rfl, rfl, hI2, hk⟩ := hq
        refine pv_iret (pc := 58) dX11_act_58 rfl rfl ?_
        have ea : ac = 0 := by rw [← Int32.toInt_inj, h26_0]; decide
        subst ea
        have e : S_act J K f 0 x2 = (.int (w_calV J f.toNatClampNeg f x2), w_calB (w_r0 J) (J 1 f.toNatClampNeg), K) := by unfold S_act; rw [if_pos ⟨hF, by decide, by decide⟩]; rfl
        rw [e, kk]
        refine ⟨?_, hX.bo (JB.cal JB.r0 _) (fun a j q => (hI2 a j q).trans (hI0 a j q)) hk, kM.of (fun a j q1 q2 => (hI2 a j (by omega)).trans (hI0 a j (by omega))) (fun _ _ _ _ => rfl)⟩
        simp [w_knV, w_knT, w_stV, w_calV, kk, s_isC, s_isT]
      · refine pv_aload_4 (pc := 59) dX11_act_59 ?_
        refine pv_iload_3 (pc := 61) dX11_act_61 ?_
        refine pv_callUq (pc := 62) dX11_act_62 mgX3_steps lu_X11_331_1 (by omega) fx4 (by omega) (c_steps_1 (y := f) (a := J 2 f.toNatClampNeg) (w := x2) hT fx2 fx4 hfb ((hI0 x 1 (by omega)).trans (fx6.trans (x_fof hF))) ((hI0 x 2 (by omega)).trans fx7) hXT (hXN.mo (by omega)) (by omega)) rfl rfl (by decide) (fun v t I L Rf hq => ?_)
        obtain ⟨rfl, rfl, rfl, rfl, hI2, hk⟩ := hq
        refine pv_iret (pc := 65) dX11_act_65 rfl rfl ?_
        have ea : ac = 1 := by rw [← Int32.toInt_inj, h26_1]; decide
        subst ea
        have e : S_act J K f 1 x2 = (.int (w_stV J f.toNatClampNeg f x2), w_stB (w_r0 J) (J 1 f.toNatClampNeg), K) := by unfold S_act; rw [if_pos ⟨hF, by decide, by decide⟩]; rfl
        rw [e, kk]
        refine ⟨?_, hX.bo (JB.st JB.r0 _) (fun a j q => (hI2 a j q).trans (hI0 a j q)) hk, kM.of (fun a j q1 q2 => (hI2 a j (by omega)).trans (hI0 a j (by omega))) (fun _ _ _ _ => rfl)⟩
        simp [w_knV, w_knT, w_stV, w_calV, kk, s_isC, s_isT]
      · refine pv_aload_4 (pc := 66) dX11_act_66 ?_
        refine pv_iload_3 (pc := 68) dX11_act_68 ?_
        refine pv_callUq (pc := 69) dX11_act_69 mgX3_knots lu_X11_333_1 (by omega) fx4 (by omega) (c_knots_1 (y := f) (a := J 2 f.toNatClampNeg) (w := x2) hT fx2 fx4 hfb ((hI0 x 1 (by omega)).trans (fx6.trans (x_fof hF))) ((hI0 x 2 (by omega)).trans fx7) hXT (hXN.mo (by omega)) (by omega)) rfl rfl (by decide) (fun v t I L Rf hq => ?_)
        obtain ⟨rfl, rfl, rfl, rfl, hI2, hk⟩ := hq
        refine pv_iret (pc := 72) dX11_act_72 rfl rfl ?_
        have ea : ac = 2 := by rw [← Int32.toInt_inj, h26_2]; decide
        subst ea
        have e : S_act J K f 2 x2 = (.int (w_knV J f.toNatClampNeg f x2), w_knB (w_r0 J) (J 1 f.toNatClampNeg), K) := by unfold S_act; rw [if_pos ⟨hF, by decide, by decide⟩]; rfl
        rw [e, kk]
        refine ⟨?_, hX.bo (JB.kn JB.r0 _) (fun a j q => (hI2 a j q).trans (hI0 a j q)) hk, kM.of (fun a j q1 q2 => (hI2 a j (by omega)).trans (hI0 a j (by omega))) (fun _ _ _ _ => rfl)⟩
        simp [w_knV, w_knT, w_stV, w_calV, kk, s_isC, s_isT]
      · refine pv_iconst (pc := 73) (v := 0) dX11_act_73 (by decide) ?_
        refine pv_iret (pc := 74) dX11_act_74 rfl rfl ?_
        have e : S_act J K f ac x2 = (.int 0, w_r0 J, K) := by
          unfold S_act
          rw [if_neg]
          rintro ⟨-, g1, g2⟩
          rw [i_le, Int32.toInt_zero] at g1
          rw [i_le, show (2 : Int32).toInt = 2 by decide] at g2
          have := h26_3
          omega
        rw [e]
        exact ⟨rfl, hX.bo JB.r0 hI0 hXT, kM.of (fun a j q1 q2 => hI0 a j (by omega)) (fun _ _ _ _ => rfl)⟩
    · skip
      refine pv_aload_0 (pc := 0) dX11_act_0 ?_
      refine pv_getR (pc := 1) dX11_act_1 fg_X11_25_11 rfl (by decide) (sx_16 hT) (rx_16_3 hR) ?_
      refine pv_iconst (pc := 4) (v := 0) dX11_act_4 (by decide) ?_
      refine pv_iconst (pc := 5) (v := 0) dX11_act_5 (by decide) ?_
      refine pv_iastorej (pc := 6) dX11_act_6 (by decide) (sx_20 hT) (j := 0) (by decide) (by unfold vp_in; decide) ?_
      have hXT : XT (w_r0 J) (pv_u I 20 0 0) := ⟨by rw [pv_u_eq, if_pos rfl]; rfl, fun i _ q => absurd (show (i : Int) < (0 : Int32).toInt from q) (by rw [Int32.toInt_zero]; omega)⟩
      have hXN : XN 0 (w_r0 J) := ⟨by show 0 ≤ (0 : Int32).toInt; decide, by show (0 : Int32).toInt ≤ _; decide⟩
      have hI0 : ∀ a j, a ≠ 20 → pv_u I 20 0 0 a j = I a j := fun a j q => pv_u_o _ (by omega)
      refine pv_aload_0 (pc := 7) dX11_act_7 ?_
      refine pv_aload_0 (pc := 8) dX11_act_8 ?_
      refine pv_getR (pc := 9) dX11_act_9 fg_X11_31_11 rfl (by decide) (sx_16 hT) (rx_16_4 hR) ?_
      refine pv_iload_1 (pc := 12) dX11_act_12 ?_
      refine pv_callV1 (pc := 13) dX11_act_13 mgX11_figureAt lv_X11_114_11 (by decide) (sx_16 hT) (by omega) (c_X11_figureAt1 hT hR (by decide) (sx_21 hT) hF8 hFc fx1) rfl rfl (by decide) ?_
      refine pv_astore_4 (pc := 16) dX11_act_16 (by decide) rfl ?_
      refine pv_aload_4 (pc := 18) dX11_act_18 ?_
      refine pv_ifnonnull (pc := 20) (tgt := 25) dX11_act_20 (by decide) ?_
      refine pv_iload_2 (pc := 25) dX11_act_25 ?_
      refine pv_tab3 (pc := 26) dX11_act_26 (t0 := 52) (t1 := 59) (t2 := 66) (t3 := 73) (by decide) (by decide) (by decide) (by decide) (fun h26_0 => ?_) (fun h26_1 => ?_) (fun h26_2 => ?_) (fun h26_3 => ?_)
      · refine pv_aload_4 (pc := 52) dX11_act_52 ?_
        refine pv_iload_3 (pc := 54) dX11_act_54 ?_
        refine pv_callUq (pc := 55) dX11_act_55 mgX1_calls lu_X11_328_10 (by omega) fx4 (by omega) (c_calls_10 (y := f) (a := J 2 f.toNatClampNeg) (w := x2) hT fx2 fx4 hfb ((hI0 x 1 (by omega)).trans (fx6.trans (x_fof hF))) ((hI0 x 2 (by omega)).trans fx7) hXT (hXN.mo (by omega)) (by omega)) rfl rfl (by decide) (fun v t I L Rf hq => ?_)
        obtain ⟨rfl, rfl, rfl, rfl, hI2, hk⟩ := hq
        refine pv_iret (pc := 58) dX11_act_58 rfl rfl ?_
        have ea : ac = 0 := by rw [← Int32.toInt_inj, h26_0]; decide
        subst ea
        have e : S_act J K f 0 x2 = (.int (w_calV J f.toNatClampNeg f x2), w_calB (w_r0 J) (J 1 f.toNatClampNeg), K) := by unfold S_act; rw [if_pos ⟨hF, by decide, by decide⟩]; rfl
        rw [e, kk]
        refine ⟨?_, hX.bo (JB.cal JB.r0 _) (fun a j q => (hI2 a j q).trans (hI0 a j q)) hk, kM.of (fun a j q1 q2 => (hI2 a j (by omega)).trans (hI0 a j (by omega))) (fun _ _ _ _ => rfl)⟩
        simp [w_knV, w_knT, w_stV, w_calV, kk, s_isC, s_isT]
      · refine pv_aload_4 (pc := 59) dX11_act_59 ?_
        refine pv_iload_3 (pc := 61) dX11_act_61 ?_
        refine pv_callUq (pc := 62) dX11_act_62 mgX10_steps lu_X11_331_10 (by omega) fx4 (by omega) (c_steps_10 (y := f) (a := J 2 f.toNatClampNeg) (w := x2) hT fx2 fx4 hfb ((hI0 x 1 (by omega)).trans (fx6.trans (x_fof hF))) ((hI0 x 2 (by omega)).trans fx7) hXT (hXN.mo (by omega)) (by omega)) rfl rfl (by decide) (fun v t I L Rf hq => ?_)
        obtain ⟨rfl, rfl, rfl, rfl, hI2, hk⟩ := hq
        refine pv_iret (pc := 65) dX11_act_65 rfl rfl ?_
        have ea : ac = 1 := by rw [← Int32.toInt_inj, h26_1]; decide
        subst ea
        have e : S_act J K f 1 x2 = (.int (w_stV J f.toNatClampNeg f x2), w_stB (w_r0 J) (J 1 f.toNatClampNeg), K) := by unfold S_act; rw [if_pos ⟨hF, by decide, by decide⟩]; rfl
        rw [e, kk]
        refine ⟨?_, hX.bo (JB.st JB.r0 _) (fun a j q => (hI2 a j q).trans (hI0 a j q)) hk, kM.of (fun a j q1 q2 => (hI2 a j (by omega)).trans (hI0 a j (by omega))) (fun _ _ _ _ => rfl)⟩
        simp [w_knV, w_knT, w_stV, w_calV, kk, s_isC, s_isT]
      · refine pv_aload_4 (pc := 66) dX11_act_66 ?_
        refine pv_iload_3 (pc := 68) dX11_act_68 ?_
        refine pv_callUq (pc := 69) dX11_act_69 mgX3_knots lu_X11_333_10 (by omega) fx4 (by omega) (c_knots_10 (y := f) (a := J 2 f.toNatClampNeg) (w := x2) hT fx2 fx4 hfb ((hI0 x 1 (by omega)).trans (fx6.trans (x_fof hF))) ((hI0 x 2 (by omega)).trans fx7) hXT (hXN.mo (by omega)) (by omega)) rfl rfl (by decide) (fun v t I L Rf hq => ?_)
        obtain ⟨rfl, rfl, rfl, rfl, hI2, hk⟩ := hq
        refine pv_iret (pc := 72) dX11_act_72 rfl rfl ?_
        have ea : ac = 2 := by rw [← Int32.toInt_inj, h26_2]; decide
        subst ea
        have e : S_act J K f 2 x2 = (.int (w_knV J f.toNatClampNeg f x2), w_knB (w_r0 J) (J 1 f.toNatClampNeg), K) := by unfold S_act; rw [if_pos ⟨hF, by decide, by decide⟩]; rfl
        rw [e, kk]
        refine ⟨?_, hX.bo (JB.kn JB.r0 _) (fun a j q => (hI2 a j q).trans (hI0 a j q)) hk, kM.of (fun a j q1 q2 => (hI2 a j (by omega)).trans (hI0 a j (by omega))) (fun _ _ _ _ => rfl)⟩
        simp [w_knV, w_knT, w_stV, w_calV, kk, s_isC, s_isT]
      · refine pv_iconst (pc := 73) (v := 0) dX11_act_73 (by decide) ?_
        refine pv_iret (pc := 74) dX11_act_74 rfl rfl ?_
        have e : S_act J K f ac x2 = (.int 0, w_r0 J, K) := by
          unfold S_act
          rw [if_neg]
          rintro ⟨-, g1, g2⟩
          rw [i_le, Int32.toInt_zero] at g1
          rw [i_le, show (2 : Int32).toInt = 2 by decide] at g2
          have := h26_3
          omega
        rw [e]
        exact ⟨rfl, hX.bo JB.r0 hI0 hXT, kM.of (fun a j q1 q2 => hI0 a j (by omega)) (fun _ _ _ _ => rfl)⟩
    · skip
      refine pv_aload_0 (pc := 0) dX11_act_0 ?_
      refine pv_getR (pc := 1) dX11_act_1 fg_X11_25_11 rfl (by decide) (sx_16 hT) (rx_16_3 hR) ?_
      refine pv_iconst (pc := 4) (v := 0) dX11_act_4 (by decide) ?_
      refine pv_iconst (pc := 5) (v := 0) dX11_act_5 (by decide) ?_
      refine pv_iastorej (pc := 6) dX11_act_6 (by decide) (sx_20 hT) (j := 0) (by decide) (by unfold vp_in; decide) ?_
      have hXT : XT (w_r0 J) (pv_u I 20 0 0) := ⟨by rw [pv_u_eq, if_pos rfl]; rfl, fun i _ q => absurd (show (i : Int) < (0 : Int32).toInt from q) (by rw [Int32.toInt_zero]; omega)⟩
      have hXN : XN 0 (w_r0 J) := ⟨by show 0 ≤ (0 : Int32).toInt; decide, by show (0 : Int32).toInt ≤ _; decide⟩
      have hI0 : ∀ a j, a ≠ 20 → pv_u I 20 0 0 a j = I a j := fun a j q => pv_u_o _ (by omega)
      refine pv_aload_0 (pc := 7) dX11_act_7 ?_
      refine pv_aload_0 (pc := 8) dX11_act_8 ?_
      refine pv_getR (pc := 9) dX11_act_9 fg_X11_31_11 rfl (by decide) (sx_16 hT) (rx_16_4 hR) ?_
      refine pv_iload_1 (pc := 12) dX11_act_12 ?_
      refine pv_callV1 (pc := 13) dX11_act_13 mgX11_figureAt lv_X11_114_11 (by decide) (sx_16 hT) (by omega) (c_X11_figureAt1 hT hR (by decide) (sx_21 hT) hF8 hFc fx1) rfl rfl (by decide) ?_
      refine pv_astore_4 (pc := 16) dX11_act_16 (by decide) rfl ?_
      refine pv_aload_4 (pc := 18) dX11_act_18 ?_
      refine pv_ifnonnull (pc := 20) (tgt := 25) dX11_act_20 (by decide) ?_
      refine pv_iload_2 (pc := 25) dX11_act_25 ?_
      refine pv_tab3 (pc := 26) dX11_act_26 (t0 := 52) (t1 := 59) (t2 := 66) (t3 := 73) (by decide) (by decide) (by decide) (by decide) (fun h26_0 => ?_) (fun h26_1 => ?_) (fun h26_2 => ?_) (fun h26_3 => ?_)
      · refine pv_aload_4 (pc := 52) dX11_act_52 ?_
        refine pv_iload_3 (pc := 54) dX11_act_54 ?_
        refine pv_callUq (pc := 55) dX11_act_55 mgX1_calls lu_X11_328_5 (by omega) fx4 (by omega) (c_calls_5 (y := f) (a := J 2 f.toNatClampNeg) (w := x2) hT fx2 fx4 hfb ((hI0 x 1 (by omega)).trans (fx6.trans (x_fof hF))) ((hI0 x 2 (by omega)).trans fx7) hXT (hXN.mo (by omega)) (by omega)) rfl rfl (by decide) (fun v t I L Rf hq => ?_)
        obtain ⟨rfl, rfl, rfl, rfl, hI2, hk⟩ := hq
        refine pv_iret (pc := 58) dX11_act_58 rfl rfl ?_
        have ea : ac = 0 := by rw [← Int32.toInt_inj, h26_0]; decide
        subst ea
        have e : S_act J K f 0 x2 = (.int (w_calV J f.toNatClampNeg f x2), w_calB (w_r0 J) (J 1 f.toNatClampNeg), K) := by unfold S_act; rw [if_pos ⟨hF, by decide, by decide⟩]; rfl
        rw [e, kk]
        refine ⟨?_, hX.bo (JB.cal JB.r0 _) (fun a j q => (hI2 a j q).trans (hI0 a j q)) hk, kM.of (fun a j q1 q2 => (hI2 a j (by omega)).trans (hI0 a j (by omega))) (fun _ _ _ _ => rfl)⟩
        simp [w_knV, w_knT, w_stV, w_calV, kk, s_isC, s_isT]
      · refine pv_aload_4 (pc := 59) dX11_act_59 ?_
        refine pv_iload_3 (pc := 61) dX11_act_61 ?_
        refine pv_callUq (pc := 62) dX11_act_62 mgX5_steps lu_X11_331_5 (by omega) fx4 (by omega) (c_steps_5 (y := f) (a := J 2 f.toNatClampNeg) (w := x2) hT fx2 fx4 hfb ((hI0 x 1 (by omega)).trans (fx6.trans (x_fof hF))) ((hI0 x 2 (by omega)).trans fx7) hXT (hXN.mo (by omega)) (by omega)) rfl rfl (by decide) (fun v t I L Rf hq => ?_)
        obtain ⟨rfl, rfl, rfl, rfl, hI2, hk⟩ := hq
        refine pv_iret (pc := 65) dX11_act_65 rfl rfl ?_
        have ea : ac = 1 := by rw [← Int32.toInt_inj, h26_1]; decide
        subst ea
        have e : S_act J K f 1 x2 = (.int (w_stV J f.toNatClampNeg f x2), w_stB (w_r0 J) (J 1 f.toNatClampNeg), K) := by unfold S_act; rw [if_pos ⟨hF, by decide, by decide⟩]; rfl
        rw [e, kk]
        refine ⟨?_, hX.bo (JB.st JB.r0 _) (fun a j q => (hI2 a j q).trans (hI0 a j q)) hk, kM.of (fun a j q1 q2 => (hI2 a j (by omega)).trans (hI0 a j (by omega))) (fun _ _ _ _ => rfl)⟩
        simp [w_knV, w_knT, w_stV, w_calV, kk, s_isC, s_isT]
      · refine pv_aload_4 (pc := 66) dX11_act_66 ?_
        refine pv_iload_3 (pc := 68) dX11_act_68 ?_
        refine pv_callUq (pc := 69) dX11_act_69 mgX5_knots lu_X11_333_5 (by omega) fx4 (by omega) (c_knots_5 (y := f) (a := J 2 f.toNatClampNeg) (w := x2) hT fx2 fx4 hfb ((hI0 x 1 (by omega)).trans (fx6.trans (x_fof hF))) ((hI0 x 2 (by omega)).trans fx7) hXT (hXN.mo (by omega)) (by omega)) rfl rfl (by decide) (fun v t I L Rf hq => ?_)
        obtain ⟨rfl, rfl, rfl, rfl, hI2, hk⟩ := hq
        refine pv_iret (pc := 72) dX11_act_72 rfl rfl ?_
        have ea : ac = 2 := by rw [← Int32.toInt_inj, h26_2]; decide
        subst ea
        have e : S_act J K f 2 x2 = (.int (w_knV J f.toNatClampNeg f x2), w_knB (w_r0 J) (J 1 f.toNatClampNeg), K) := by unfold S_act; rw [if_pos ⟨hF, by decide, by decide⟩]; rfl
        rw [e, kk]
        refine ⟨?_, hX.bo (JB.kn JB.r0 _) (fun a j q => (hI2 a j q).trans (hI0 a j q)) hk, kM.of (fun a j q1 q2 => (hI2 a j (by omega)).trans (hI0 a j (by omega))) (fun _ _ _ _ => rfl)⟩
        simp [w_knV, w_knT, w_stV, w_calV, kk, s_isC, s_isT]
      · refine pv_iconst (pc := 73) (v := 0) dX11_act_73 (by decide) ?_
        refine pv_iret (pc := 74) dX11_act_74 rfl rfl ?_
        have e : S_act J K f ac x2 = (.int 0, w_r0 J, K) := by
          unfold S_act
          rw [if_neg]
          rintro ⟨-, g1, g2⟩
          rw [i_le, Int32.toInt_zero] at g1
          rw [i_le, show (2 : Int32).toInt = 2 by decide] at g2
          have := h26_3
          omega
        rw [e]
        exact ⟨rfl, hX.bo JB.r0 hI0 hXT, kM.of (fun a j q1 q2 => hI0 a j (by omega)) (fun _ _ _ _ => rfl)⟩
    · skip
      refine pv_aload_0 (pc := 0) dX11_act_0 ?_
      refine pv_getR (pc := 1) dX11_act_1 fg_X11_25_11 rfl (by decide) (sx_16 hT) (rx_16_3 hR) ?_
      refine pv_iconst (pc := 4) (v := 0) dX11_act_4 (by decide) ?_
      refine pv_iconst (pc := 5) (v := 0) dX11_act_5 (by decide) ?_
      refine pv_iastorej (pc := 6) dX11_act_6 (by decide) (sx_20 hT) (j := 0) (by decide) (by unfold vp_in; decide) ?_
      have hXT : XT (w_r0 J) (pv_u I 20 0 0) := ⟨by rw [pv_u_eq, if_pos rfl]; rfl, fun i _ q => absurd (show (i : Int) < (0 : Int32).toInt from q) (by rw [Int32.toInt_zero]; omega)⟩
      have hXN : XN 0 (w_r0 J) := ⟨by show 0 ≤ (0 : Int32).toInt; decide, by show (0 : Int32).toInt ≤ _; decide⟩
      have hI0 : ∀ a j, a ≠ 20 → pv_u I 20 0 0 a j = I a j := fun a j q => pv_u_o _ (by omega)
      refine pv_aload_0 (pc := 7) dX11_act_7 ?_
      refine pv_aload_0 (pc := 8) dX11_act_8 ?_
      refine pv_getR (pc := 9) dX11_act_9 fg_X11_31_11 rfl (by decide) (sx_16 hT) (rx_16_4 hR) ?_
      refine pv_iload_1 (pc := 12) dX11_act_12 ?_
      refine pv_callV1 (pc := 13) dX11_act_13 mgX11_figureAt lv_X11_114_11 (by decide) (sx_16 hT) (by omega) (c_X11_figureAt1 hT hR (by decide) (sx_21 hT) hF8 hFc fx1) rfl rfl (by decide) ?_
      refine pv_astore_4 (pc := 16) dX11_act_16 (by decide) rfl ?_
      refine pv_aload_4 (pc := 18) dX11_act_18 ?_
      refine pv_ifnonnull (pc := 20) (tgt := 25) dX11_act_20 (by decide) ?_
      refine pv_iload_2 (pc := 25) dX11_act_25 ?_
      refine pv_tab3 (pc := 26) dX11_act_26 (t0 := 52) (t1 := 59) (t2 := 66) (t3 := 73) (by decide) (by decide) (by decide) (by decide) (fun h26_0 => ?_) (fun h26_1 => ?_) (fun h26_2 => ?_) (fun h26_3 => ?_)
      · refine pv_aload_4 (pc := 52) dX11_act_52 ?_
        refine pv_iload_3 (pc := 54) dX11_act_54 ?_
        refine pv_callUq (pc := 55) dX11_act_55 mgX3_calls lu_X11_328_9 (by omega) fx4 (by omega) (c_calls_9 (y := f) (a := J 2 f.toNatClampNeg) (w := x2) hT fx2 fx4 hfb ((hI0 x 1 (by omega)).trans (fx6.trans (x_fof hF))) ((hI0 x 2 (by omega)).trans fx7) hXT (hXN.mo (by omega)) (by omega)) rfl rfl (by decide) (fun v t I L Rf hq => ?_)
        obtain ⟨rfl, rfl, rfl, rfl, hI2, hk⟩ := hq
        refine pv_iret (pc := 58) dX11_act_58 rfl rfl ?_
        have ea : ac = 0 := by rw [← Int32.toInt_inj, h26_0]; decide
        subst ea
        have e : S_act J K f 0 x2 = (.int (w_calV J f.toNatClampNeg f x2), w_calB (w_r0 J) (J 1 f.toNatClampNeg), K) := by unfold S_act; rw [if_pos ⟨hF, by decide, by decide⟩]; rfl
        rw [e, kk]
        refine ⟨?_, hX.bo (JB.cal JB.r0 _) (fun a j q => (hI2 a j q).trans (hI0 a j q)) hk, kM.of (fun a j q1 q2 => (hI2 a j (by omega)).trans (hI0 a j (by omega))) (fun _ _ _ _ => rfl)⟩
        simp [w_knV, w_knT, w_stV, w_calV, kk, s_isC, s_isT]
      · refine pv_aload_4 (pc := 59) dX11_act_59 ?_
        refine pv_iload_3 (pc := 61) dX11_act_61 ?_
        refine pv_callUq (pc := 62) dX11_act_62 mgX3_steps lu_X11_331_9 (by omega) fx4 (by omega) (c_steps_9 (y := f) (a := J 2 f.toNatClampNeg) (w := x2) hT fx2 fx4 hfb ((hI0 x 1 (by omega)).trans (fx6.trans (x_fof hF))) ((hI0 x 2 (by omega)).trans fx7) hXT (hXN.mo (by omega)) (by omega)) rfl rfl (by decide) (fun v t I L Rf hq => ?_)
        obtain ⟨rfl, rfl, rfl, rfl, hI2, hk⟩ := hq
        refine pv_iret (pc := 65) dX11_act_65 rfl rfl ?_
        have ea : ac = 1 := by rw [← Int32.toInt_inj, h26_1]; decide
        subst ea
        have e : S_act J K f 1 x2 = (.int (w_stV J f.toNatClampNeg f x2), w_stB (w_r0 J) (J 1 f.toNatClampNeg), K) := by unfold S_act; rw [if_pos ⟨hF, by decide, by decide⟩]; rfl
        rw [e, kk]
        refine ⟨?_, hX.bo (JB.st JB.r0 _) (fun a j q => (hI2 a j q).trans (hI0 a j q)) hk, kM.of (fun a j q1 q2 => (hI2 a j (by omega)).trans (hI0 a j (by omega))) (fun _ _ _ _ => rfl)⟩
        simp [w_knV, w_knT, w_stV, w_calV, kk, s_isC, s_isT]
      · refine pv_aload_4 (pc := 66) dX11_act_66 ?_
        refine pv_iload_3 (pc := 68) dX11_act_68 ?_
        refine pv_callUq (pc := 69) dX11_act_69 mgX9_knots lu_X11_333_9 (by omega) fx4 (by omega) (c_knots_9 (y := f) (a := J 2 f.toNatClampNeg) (w := x2) hT fx2 fx4 hfb ((hI0 x 1 (by omega)).trans (fx6.trans (x_fof hF))) ((hI0 x 2 (by omega)).trans fx7) hXT (hXN.mo (by omega)) (by omega)) rfl rfl (by decide) (fun v t I L Rf hq => ?_)
        obtain ⟨rfl, rfl, rfl, rfl, hI2, hk⟩ := hq
        refine pv_iret (pc := 72) dX11_act_72 rfl rfl ?_
        have ea : ac = 2 := by rw [← Int32.toInt_inj, h26_2]; decide
        subst ea
        have e : S_act J K f 2 x2 = (.int (w_knV J f.toNatClampNeg f x2), w_knB (w_r0 J) (J 1 f.toNatClampNeg), K) := by unfold S_act; rw [if_pos ⟨hF, by decide, by decide⟩]; rfl
        rw [e, kk]
        refine ⟨?_, hX.bo (JB.kn JB.r0 _) (fun a j q => (hI2 a j q).trans (hI0 a j q)) hk, kM.of (fun a j q1 q2 => (hI2 a j (by omega)).trans (hI0 a j (by omega))) (fun _ _ _ _ => rfl)⟩
        simp [w_knV, w_knT, w_stV, w_calV, kk, s_isC, s_isT]
      · refine pv_iconst (pc := 73) (v := 0) dX11_act_73 (by decide) ?_
        refine pv_iret (pc := 74) dX11_act_74 rfl rfl ?_
        have e : S_act J K f ac x2 = (.int 0, w_r0 J, K) := by
          unfold S_act
          rw [if_neg]
          rintro ⟨-, g1, g2⟩
          rw [i_le, Int32.toInt_zero] at g1
          rw [i_le, show (2 : Int32).toInt = 2 by decide] at g2
          have := h26_3
          omega
        rw [e]
        exact ⟨rfl, hX.bo JB.r0 hI0 hXT, kM.of (fun a j q1 q2 => hI0 a j (by omega)) (fun _ _ _ _ => rfl)⟩
    · skip
      refine pv_aload_0 (pc := 0) dX11_act_0 ?_
      refine pv_getR (pc := 1) dX11_act_1 fg_X11_25_11 rfl (by decide) (sx_16 hT) (rx_16_3 hR) ?_
      refine pv_iconst (pc := 4) (v := 0) dX11_act_4 (by decide) ?_
      refine pv_iconst (pc := 5) (v := 0) dX11_act_5 (by decide) ?_
      refine pv_iastorej (pc := 6) dX11_act_6 (by decide) (sx_20 hT) (j := 0) (by decide) (by unfold vp_in; decide) ?_
      have hXT : XT (w_r0 J) (pv_u I 20 0 0) := ⟨by rw [pv_u_eq, if_pos rfl]; rfl, fun i _ q => absurd (show (i : Int) < (0 : Int32).toInt from q) (by rw [Int32.toInt_zero]; omega)⟩
      have hXN : XN 0 (w_r0 J) := ⟨by show 0 ≤ (0 : Int32).toInt; decide, by show (0 : Int32).toInt ≤ _; decide⟩
      have hI0 : ∀ a j, a ≠ 20 → pv_u I 20 0 0 a j = I a j := fun a j q => pv_u_o _ (by omega)
      refine pv_aload_0 (pc := 7) dX11_act_7 ?_
      refine pv_aload_0 (pc := 8) dX11_act_8 ?_
      refine pv_getR (pc := 9) dX11_act_9 fg_X11_31_11 rfl (by decide) (sx_16 hT) (rx_16_4 hR) ?_
      refine pv_iload_1 (pc := 12) dX11_act_12 ?_
      refine pv_callV1 (pc := 13) dX11_act_13 mgX11_figureAt lv_X11_114_11 (by decide) (sx_16 hT) (by omega) (c_X11_figureAt1 hT hR (by decide) (sx_21 hT) hF8 hFc fx1) rfl rfl (by decide) ?_
      refine pv_astore_4 (pc := 16) dX11_act_16 (by decide) rfl ?_
      refine pv_aload_4 (pc := 18) dX11_act_18 ?_
      refine pv_ifnonnull (pc := 20) (tgt := 25) dX11_act_20 (by decide) ?_
      refine pv_iload_2 (pc := 25) dX11_act_25 ?_
      refine pv_tab3 (pc := 26) dX11_act_26 (t0 := 52) (t1 := 59) (t2 := 66) (t3 := 73) (by decide) (by decide) (by decide) (by decide) (fun h26_0 => ?_) (fun h26_1 => ?_) (fun h26_2 => ?_) (fun h26_3 => ?_)
      · refine pv_aload_4 (pc := 52) dX11_act_52 ?_
        refine pv_iload_3 (pc := 54) dX11_act_54 ?_
        refine pv_callUq (pc := 55) dX11_act_55 mgX0_calls lu_X11_328_0 (by omega) fx4 (by omega) (c_calls_0 (y := f) (a := J 2 f.toNatClampNeg) (w := x2) hT fx2 fx4 hfb ((hI0 x 1 (by omega)).trans (fx6.trans (x_fof hF))) ((hI0 x 2 (by omega)).trans fx7) hXT (hXN.mo (by omega)) (by omega)) rfl rfl (by decide) (fun v t I L Rf hq => ?_)
        obtain ⟨rfl, rfl, rfl, rfl, hI2, hk⟩ := hq
        refine pv_iret (pc := 58) dX11_act_58 rfl rfl ?_
        have ea : ac = 0 := by rw [← Int32.toInt_inj, h26_0]; decide
        subst ea
        have e : S_act J K f 0 x2 = (.int (w_calV J f.toNatClampNeg f x2), w_calB (w_r0 J) (J 1 f.toNatClampNeg), K) := by unfold S_act; rw [if_pos ⟨hF, by decide, by decide⟩]; rfl
        rw [e, kk]
        refine ⟨?_, hX.bo (JB.cal JB.r0 _) (fun a j q => (hI2 a j q).trans (hI0 a j q)) hk, kM.of (fun a j q1 q2 => (hI2 a j (by omega)).trans (hI0 a j (by omega))) (fun _ _ _ _ => rfl)⟩
        simp [w_knV, w_knT, w_stV, w_calV, kk, s_isC, s_isT]
      · refine pv_aload_4 (pc := 59) dX11_act_59 ?_
        refine pv_iload_3 (pc := 61) dX11_act_61 ?_
        refine pv_callUq (pc := 62) dX11_act_62 mgX3_steps lu_X11_331_0 (by omega) fx4 (by omega) (c_steps_0 (y := f) (a := J 2 f.toNatClampNeg) (w := x2) hT fx2 fx4 hfb ((hI0 x 1 (by omega)).trans (fx6.trans (x_fof hF))) ((hI0 x 2 (by omega)).trans fx7) hXT (hXN.mo (by omega)) (by omega)) rfl rfl (by decide) (fun v t I L Rf hq => ?_)
        obtain ⟨rfl, rfl, rfl, rfl, hI2, hk⟩ := hq
        refine pv_iret (pc := 65) dX11_act_65 rfl rfl ?_
        have ea : ac = 1 := by rw [← Int32.toInt_inj, h26_1]; decide
        subst ea
        have e : S_act J K f 1 x2 = (.int (w_stV J f.toNatClampNeg f x2), w_stB (w_r0 J) (J 1 f.toNatClampNeg), K) := by unfold S_act; rw [if_pos ⟨hF, by decide, by decide⟩]; rfl
        rw [e, kk]
        refine ⟨?_, hX.bo (JB.st JB.r0 _) (fun a j q => (hI2 a j q).trans (hI0 a j q)) hk, kM.of (fun a j q1 q2 => (hI2 a j (by omega)).trans (hI0 a j (by omega))) (fun _ _ _ _ => rfl)⟩
        simp [w_knV, w_knT, w_stV, w_calV, kk, s_isC, s_isT]
      · refine pv_aload_4 (pc := 66) dX11_act_66 ?_
        refine pv_iload_3 (pc := 68) dX11_act_68 ?_
        refine pv_callUq (pc := 69) dX11_act_69 mgX9_knots lu_X11_333_0 (by omega) fx4 (by omega) (c_knots_0 (y := f) (a := J 2 f.toNatClampNeg) (w := x2) hT fx2 fx4 hfb ((hI0 x 1 (by omega)).trans (fx6.trans (x_fof hF))) ((hI0 x 2 (by omega)).trans fx7) hXT (hXN.mo (by omega)) (by omega)) rfl rfl (by decide) (fun v t I L Rf hq => ?_)
        obtain ⟨rfl, rfl, rfl, rfl, hI2, hk⟩ := hq
        refine pv_iret (pc := 72) dX11_act_72 rfl rfl ?_
        have ea : ac = 2 := by rw [← Int32.toInt_inj, h26_2]; decide
        subst ea
        have e : S_act J K f 2 x2 = (.int (w_knV J f.toNatClampNeg f x2), w_knB (w_r0 J) (J 1 f.toNatClampNeg), K) := by unfold S_act; rw [if_pos ⟨hF, by decide, by decide⟩]; rfl
        rw [e, kk]
        refine ⟨?_, hX.bo (JB.kn JB.r0 _) (fun a j q => (hI2 a j q).trans (hI0 a j q)) hk, kM.of (fun a j q1 q2 => (hI2 a j (by omega)).trans (hI0 a j (by omega))) (fun _ _ _ _ => rfl)⟩
        simp [w_knV, w_knT, w_stV, w_calV, kk, s_isC, s_isT]
      · refine pv_iconst (pc := 73) (v := 0) dX11_act_73 (by decide) ?_
        refine pv_iret (pc := 74) dX11_act_74 rfl rfl ?_
        have e : S_act J K f ac x2 = (.int 0, w_r0 J, K) := by
          unfold S_act
          rw [if_neg]
          rintro ⟨-, g1, g2⟩
          rw [i_le, Int32.toInt_zero] at g1
          rw [i_le, show (2 : Int32).toInt = 2 by decide] at g2
          have := h26_3
          omega
        rw [e]
        exact ⟨rfl, hX.bo JB.r0 hI0 hXT, kM.of (fun a j q1 q2 => hI0 a j (by omega)) (fun _ _ _ _ => rfl)⟩
    · skip
      refine pv_aload_0 (pc := 0) dX11_act_0 ?_
      refine pv_getR (pc := 1) dX11_act_1 fg_X11_25_11 rfl (by decide) (sx_16 hT) (rx_16_3 hR) ?_
      refine pv_iconst (pc := 4) (v := 0) dX11_act_4 (by decide) ?_
      refine pv_iconst (pc := 5) (v := 0) dX11_act_5 (by decide) ?_
      refine pv_iastorej (pc := 6) dX11_act_6 (by decide) (sx_20 hT) (j := 0) (by decide) (by unfold vp_in; decide) ?_
      have hXT : XT (w_r0 J) (pv_u I 20 0 0) := ⟨by rw [pv_u_eq, if_pos rfl]; rfl, fun i _ q => absurd (show (i : Int) < (0 : Int32).toInt from q) (by rw [Int32.toInt_zero]; omega)⟩
      have hXN : XN 0 (w_r0 J) := ⟨by show 0 ≤ (0 : Int32).toInt; decide, by show (0 : Int32).toInt ≤ _; decide⟩
      have hI0 : ∀ a j, a ≠ 20 → pv_u I 20 0 0 a j = I a j := fun a j q => pv_u_o _ (by omega)
      refine pv_aload_0 (pc := 7) dX11_act_7 ?_
      refine pv_aload_0 (pc := 8) dX11_act_8 ?_
      refine pv_getR (pc := 9) dX11_act_9 fg_X11_31_11 rfl (by decide) (sx_16 hT) (rx_16_4 hR) ?_
      refine pv_iload_1 (pc := 12) dX11_act_12 ?_
      refine pv_callV1 (pc := 13) dX11_act_13 mgX11_figureAt lv_X11_114_11 (by decide) (sx_16 hT) (by omega) (c_X11_figureAt1 hT hR (by decide) (sx_21 hT) hF8 hFc fx1) rfl rfl (by decide) ?_
      refine pv_astore_4 (pc := 16) dX11_act_16 (by decide) rfl ?_
      refine pv_aload_4 (pc := 18) dX11_act_18 ?_
      refine pv_ifnonnull (pc := 20) (tgt := 25) dX11_act_20 (by decide) ?_
      refine pv_iload_2 (pc := 25) dX11_act_25 ?_
      refine pv_tab3 (pc := 26) dX11_act_26 (t0 := 52) (t1 := 59) (t2 := 66) (t3 := 73) (by decide) (by decide) (by decide) (by decide) (fun h26_0 => ?_) (fun h26_1 => ?_) (fun h26_2 => ?_) (fun h26_3 => ?_)
      · refine pv_aload_4 (pc := 52) dX11_act_52 ?_
        refine pv_iload_3 (pc := 54) dX11_act_54 ?_
        refine pv_callUq (pc := 55) dX11_act_55 mgX3_calls lu_X11_328_6 (by omega) fx4 (by omega) (c_calls_6 (y := f) (a := J 2 f.toNatClampNeg) (w := x2) hT fx2 fx4 hfb ((hI0 x 1 (by omega)).trans (fx6.trans (x_fof hF))) ((hI0 x 2 (by omega)).trans fx7) hXT (hXN.mo (by omega)) (by omega)) rfl rfl (by decide) (fun v t I L Rf hq => ?_)
        obtain ⟨rfl, rfl, rfl, rfl, hI2, hk⟩ := hq
        refine pv_iret (pc := 58) dX11_act_58 rfl rfl ?_
        have ea : ac = 0 := by rw [← Int32.toInt_inj, h26_0]; decide
        subst ea
        have e : S_act J K f 0 x2 = (.int (w_calV J f.toNatClampNeg f x2), w_calB (w_r0 J) (J 1 f.toNatClampNeg), K) := by unfold S_act; rw [if_pos ⟨hF, by decide, by decide⟩]; rfl
        rw [e, kk]
        refine ⟨?_, hX.bo (JB.cal JB.r0 _) (fun a j q => (hI2 a j q).trans (hI0 a j q)) hk, kM.of (fun a j q1 q2 => (hI2 a j (by omega)).trans (hI0 a j (by omega))) (fun _ _ _ _ => rfl)⟩
        simp [w_knV, w_knT, w_stV, w_calV, kk, s_isC, s_isT]
      · refine pv_aload_4 (pc := 59) dX11_act_59 ?_
        refine pv_iload_3 (pc := 61) dX11_act_61 ?_
        refine pv_callUq (pc := 62) dX11_act_62 mgX6_steps lu_X11_331_6 (by omega) fx4 (by omega) (c_steps_6 (y := f) (a := J 2 f.toNatClampNeg) (w := x2) hT fx2 fx4 hfb ((hI0 x 1 (by omega)).trans (fx6.trans (x_fof hF))) ((hI0 x 2 (by omega)).trans fx7) hXT (hXN.mo (by omega)) (by omega)) rfl rfl (by decide) (fun v t I L Rf hq => ?_)
        obtain ⟨rfl, rfl, rfl, rfl, hI2, hk⟩ := hq
        refine pv_iret (pc := 65) dX11_act_65 rfl rfl ?_
        have ea : ac = 1 := by rw [← Int32.toInt_inj, h26_1]; decide
        subst ea
        have e : S_act J K f 1 x2 = (.int (w_stV J f.toNatClampNeg f x2), w_stB (w_r0 J) (J 1 f.toNatClampNeg), K) := by unfold S_act; rw [if_pos ⟨hF, by decide, by decide⟩]; rfl
        rw [e, kk]
        refine ⟨?_, hX.bo (JB.st JB.r0 _) (fun a j q => (hI2 a j q).trans (hI0 a j q)) hk, kM.of (fun a j q1 q2 => (hI2 a j (by omega)).trans (hI0 a j (by omega))) (fun _ _ _ _ => rfl)⟩
        simp [w_knV, w_knT, w_stV, w_calV, kk, s_isC, s_isT]
      · refine pv_aload_4 (pc := 66) dX11_act_66 ?_
        refine pv_iload_3 (pc := 68) dX11_act_68 ?_
        refine pv_callUq (pc := 69) dX11_act_69 mgX6_knots lu_X11_333_6 (by omega) fx4 (by omega) (c_knots_6 (y := f) (a := J 2 f.toNatClampNeg) (w := x2) hT fx2 fx4 hfb ((hI0 x 1 (by omega)).trans (fx6.trans (x_fof hF))) ((hI0 x 2 (by omega)).trans fx7) hXT (hXN.mo (by omega)) (by omega)) rfl rfl (by decide) (fun v t I L Rf hq => ?_)
        obtain ⟨rfl, rfl, rfl, rfl, hI2, hk⟩ := hq
        refine pv_iret (pc := 72) dX11_act_72 rfl rfl ?_
        have ea : ac = 2 := by rw [← Int32.toInt_inj, h26_2]; decide
        subst ea
        have e : S_act J K f 2 x2 = (.int (w_knV J f.toNatClampNeg f x2), w_knB (w_r0 J) (J 1 f.toNatClampNeg), K) := by unfold S_act; rw [if_pos ⟨hF, by decide, by decide⟩]; rfl
        rw [e, kk]
        refine ⟨?_, hX.bo (JB.kn JB.r0 _) (fun a j q => (hI2 a j q).trans (hI0 a j q)) hk, kM.of (fun a j q1 q2 => (hI2 a j (by omega)).trans (hI0 a j (by omega))) (fun _ _ _ _ => rfl)⟩
        simp [w_knV, w_knT, w_stV, w_calV, kk, s_isC, s_isT]
      · refine pv_iconst (pc := 73) (v := 0) dX11_act_73 (by decide) ?_
        refine pv_iret (pc := 74) dX11_act_74 rfl rfl ?_
        have e : S_act J K f ac x2 = (.int 0, w_r0 J, K) := by
          unfold S_act
          rw [if_neg]
          rintro ⟨-, g1, g2⟩
          rw [i_le, Int32.toInt_zero] at g1
          rw [i_le, show (2 : Int32).toInt = 2 by decide] at g2
          have := h26_3
          omega
        rw [e]
        exact ⟨rfl, hX.bo JB.r0 hI0 hXT, kM.of (fun a j q1 q2 => hI0 a j (by omega)) (fun _ _ _ _ => rfl)⟩
  · have hFn : ¬ (0 ≤ f ∧ f < I 21 3 ∧ f < 8) := fun q => hF ⟨q.1, by rw [← xn]; exact q.2.1⟩
    refine pv_aload_0 (pc := 0) dX11_act_0 ?_
    refine pv_getR (pc := 1) dX11_act_1 fg_X11_25_11 rfl (by decide) (sx_16 hT) (rx_16_3 hR) ?_
    refine pv_iconst (pc := 4) (v := 0) dX11_act_4 (by decide) ?_
    refine pv_iconst (pc := 5) (v := 0) dX11_act_5 (by decide) ?_
    refine pv_iastorej (pc := 6) dX11_act_6 (by decide) (sx_20 hT) (j := 0) (by decide) (by unfold vp_in; decide) ?_
    have hXT : XT (w_r0 J) (pv_u I 20 0 0) := ⟨by rw [pv_u_eq, if_pos rfl]; rfl, fun i _ q => absurd (show (i : Int) < (0 : Int32).toInt from q) (by rw [Int32.toInt_zero]; omega)⟩
    have hXN : XN 0 (w_r0 J) := ⟨by show 0 ≤ (0 : Int32).toInt; decide, by show (0 : Int32).toInt ≤ _; decide⟩
    have hI0 : ∀ a j, a ≠ 20 → pv_u I 20 0 0 a j = I a j := fun a j q => pv_u_o _ (by omega)
    refine pv_aload_0 (pc := 7) dX11_act_7 ?_
    refine pv_aload_0 (pc := 8) dX11_act_8 ?_
    refine pv_getR (pc := 9) dX11_act_9 fg_X11_31_11 rfl (by decide) (sx_16 hT) (rx_16_4 hR) ?_
    refine pv_iload_1 (pc := 12) dX11_act_12 ?_
    refine pv_callV1 (pc := 13) dX11_act_13 mgX11_figureAt lv_X11_114_11 (by decide) (sx_16 hT) (by omega) (c_X11_figureAt0 hT hR (by decide) (sx_21 hT) hFn) rfl rfl (by decide) ?_
    refine pv_astoreN_4 (pc := 16) dX11_act_16 (by decide) rfl ?_
    refine pv_aloadN_4 (pc := 18) dX11_act_18 ?_
    refine pv_ifnonnullN (pc := 20) dX11_act_20 ?_
    refine pv_iconst (pc := 23) (v := 0) dX11_act_23 (by decide) ?_
    refine pv_iret (pc := 24) dX11_act_24 rfl rfl ?_
    have e : S_act J K f ac x2 = (.int 0, w_r0 J, K) := by unfold S_act; rw [if_neg (fun q => hF q.1)]
    rw [e]
    exact ⟨rfl, hX.bo JB.r0 hI0 hXT, kM.of (fun a j q1 q2 => hI0 a j (by omega)) (fun _ _ _ _ => rfl)⟩

