/-! constructors: the cells in the order of their making -/
def pv_o0 (G : pv_G) (a : Nat) : Option pv_Sh := (pv_xs G a).map (fun q => .inl (q.1, q.2.1))
def pv_tl (G : pv_G) (k : Nat) : pv_T := (fun a => if a < 16 then pv_o0 G a else (pv_shl.take k)[a - 16]?, 16 + k)
theorem tl_at {G : pv_G} {k i A : Nat} {x : pv_Sh} (hA : A = 16 + i) (h : i < k) (hx : pv_shl[i]? = some x) : (pv_tl G k).1 A = some x := by
  subst hA
  show (if 16 + i < 16 then pv_o0 G (16 + i) else (pv_shl.take k)[16 + i - 16]?) = _
  rw [if_neg (by omega), show 16 + i - 16 = i by omega, List.getElem?_take, if_pos h]; exact hx
theorem tl_s {G : pv_G} {k : Nat} {x : pv_Sh} (hx : pv_shl[k]? = some x) : pv_tn (pv_tl G k) x = pv_tl G (k + 1) := by
  have hl : k < pv_shl.length := (List.getElem?_eq_some_iff.mp hx).1
  refine Prod.ext (funext fun a => ?_) rfl
  show (if a = 16 + k then some x else if a < 16 then pv_o0 G a else (pv_shl.take k)[a - 16]?) = if a < 16 then pv_o0 G a else (pv_shl.take (k + 1))[a - 16]?
  by_cases h : a = 16 + k
  · subst h
    rw [if_pos rfl, if_neg (by omega), show 16 + k - 16 = k by omega, List.getElem?_take, if_pos (by omega)]; exact hx.symm
  · rw [if_neg h]
    by_cases h2 : a < 16
    · rw [if_pos h2, if_pos h2]
    · rw [if_neg h2, if_neg h2, List.getElem?_take, List.getElem?_take]
      by_cases h3 : a - 16 < k
      · rw [if_pos h3, if_pos (by omega)]
      · rw [if_neg h3, if_neg (by omega)]
theorem tl_ok {G : pv_G} : sh_ok (pv_tl G 74) := ⟨Nat.le_refl _, fun k x h => by
  have hl : k < 74 := (List.getElem?_eq_some_iff.mp h).1
  exact tl_at (by omega) hl h⟩
section PVA
variable {G : pv_G} {M M1 : pv_Mth} {d d1 mc ms mc1 ms1 bc bs pc n idx k A k1 N : Nat} {Q Q1 : pv_Q} {ls st st0 As : List Value} {I : pv_I} {L : pv_L} {Rf : pv_R}
theorem pa_newI {n : Int32} (hd : decode M.2.1 pc = .ok (.newarray .int, 2)) (hw : Cond.arrayClass .int ∈ lw_g) (hn : ¬ n < 0) (hN : n.toNatClampNeg = N) (hsm : N ≤ 100000) (hx : pv_shl[k]? = some (.inl (.int, N))) (hA : 16 + k = A)
    (c : pv_V G M d mc ms Q bc bs (pc + 2) ls (.ref A :: st) (pv_tl G (k + 1)) (pv_ur I A fun _ => 0) (pv_ur L A fun _ => 0) (pv_ur Rf A fun _ => none)) : pv_V G M d mc ms Q (bc + 1) (bs + N) pc ls (.int n :: st) (pv_tl G k) I L Rf := by
  subst hA
  refine pv_newI hd hw hn hN hsm ?_
  rw [tl_s hx]; exact c
theorem pa_newL {n : Int32} (hd : decode M.2.1 pc = .ok (.newarray .long, 2)) (hw : Cond.arrayClass .long ∈ lw_g) (hn : ¬ n < 0) (hN : n.toNatClampNeg = N) (hsm : N ≤ 100000) (hx : pv_shl[k]? = some (.inl (.long, N))) (hA : 16 + k = A)
    (c : pv_V G M d mc ms Q bc bs (pc + 2) ls (.ref A :: st) (pv_tl G (k + 1)) (pv_ur I A fun _ => 0) (pv_ur L A fun _ => 0) (pv_ur Rf A fun _ => none)) : pv_V G M d mc ms Q (bc + 1) (bs + N) pc ls (.int n :: st) (pv_tl G k) I L Rf := by
  subst hA
  refine pv_newL hd hw hn hN hsm ?_
  rw [tl_s hx]; exact c
theorem pa_newQ {n : Int32} {C0 : String} (hd : decode M.2.1 pc = .ok (.anewarray idx, 3)) (hC : C0 = "TwoRopes$Shelf" ∨ C0 = "TwoRopes$Dance") (hl0 : Cond.classLink M.1.cls idx C0 ∈ lw_g) (hn : ¬ n < 0) (hN : n.toNatClampNeg = N) (hsm : N ≤ 100000) (hx : pv_shl[k]? = some (.inl (.object C0, N))) (hA : 16 + k = A)
    (c : pv_V G M d mc ms Q bc bs (pc + 3) ls (.ref A :: st) (pv_tl G (k + 1)) (pv_ur I A fun _ => 0) (pv_ur L A fun _ => 0) (pv_ur Rf A fun _ => none)) : pv_V G M d mc ms Q (bc + 1) (bs + N) pc ls (.int n :: st) (pv_tl G k) I L Rf := by
  subst hA
  refine pv_newQ hd hC hl0 hn hN hsm ?_
  rw [tl_s hx]; exact c
theorem pa_new {ci : Nat} {r : vw_C} (hd : decode M.2.1 pc = .ok (.new idx, 3)) (hc : vwCl[ci]? = some r) (hl0 : Cond.classLink M.1.cls idx r.1 ∈ lw_g) (hi : Cond.instantiable r.1 r.2.2 ∈ lw_g) (hn : Cond.initialized r.1 ∈ lw_g) (hok : ∀ k, k < r.2.2 → pv_okty (pv_ty ci k) = true) (hx : pv_shl[k]? = some (.inr ci)) (hA : 16 + k = A)
    (c : pv_V G M d mc ms Q bc bs (pc + 3) ls (.ref A :: st) (pv_tl G (k + 1)) (pv_ur I A fun _ => 0) (pv_ur L A fun _ => 0) (pv_ur Rf A fun _ => none)) : pv_V G M d mc ms Q (bc + 1) (bs + r.2.2) pc ls st (pv_tl G k) I L Rf := by
  subst hA
  refine pv_new hd hc hl0 hi hn hok ?_
  rw [tl_s hx]; exact c
theorem pa_aastore {t : pv_T} {a n x ci j : Nat} {i : Int32} {E : String} {r : vw_C} (hd : decode M.2.1 pc = .ok (.aastore, 1)) (h16 : 16 ≤ a) (hs : t.1 a = some (.inl (.object E, n))) (hx16 : 16 ≤ x) (hsx : t.1 x = some (.inr ci)) (hc : vwCl[ci]? = some r) (hca : r.1 = E ∨ Cond.castable r.1 E ∈ lw_n) (hj : i.toNatClampNeg = j) (hi : vp_in i n)
    (c : pv_V G M d mc ms Q bc bs (pc + 1) ls st t I L (pv_u Rf a j (some x))) : pv_V G M d mc ms Q bc bs pc ls (.ref x :: .int i :: .ref a :: st) t I L Rf := by
  subst hj
  exact pv_aastore hd h16 hs hx16 hsx hc hca hi c
end PVA
set_option maxRecDepth 100000 in
set_option maxHeartbeats 4000000 in
theorem c_ini_X4_21 {G : pv_G} {d : Nat} {I : pv_I} {L : pv_L} {Rf : pv_R} (hd : 2 ≤ d) : pv_Mt G mX4_init d 1 4 [.ref 21] (pv_tl G 6) I L Rf (pv_is none (pv_tl G 7) (pv_u (pv_u (pv_u (pv_u (pv_u (pv_ur (I) 22 fun _ => 0) 22 0 0) 22 1 1) 22 2 2) 22 3 3) 21 6 1) (pv_u (pv_ur (L) 22 fun _ => 0) 21 2 1) (pv_u (pv_ur (Rf) 22 fun _ => none) 21 0 (some 22))) := by
  refine pv_mt mgX4_init.2.2.2.2.2 [.ref 21] rfl (Nat.le_of_ble_eq_true rfl) ?_
  refine pv_aload_0 (pc := 0) dX4_init_0 ?_
  refine pv_objInit (pc := 1) dX4_init_1 ol_X4_3 oi_1 oi_2 (by omega) (by decide) ?_
  refine pv_aload_0 (pc := 4) dX4_init_4 ?_
  refine pv_iconst (pc := 5) (v := 4) dX4_init_5 (by decide) ?_
  refine pa_newI (pc := 6) (k := 6) (A := 22) (N := 4) (bc := 0) (bs := 0) dX4_init_6 ac_int (by decide) (by decide) (by decide) rfl rfl ?_
  refine pv_dup (pc := 8) dX4_init_8 rfl ?_
  refine pv_iconst (pc := 9) (v := 0) dX4_init_9 (by decide) ?_
  refine pv_iconst (pc := 10) (v := 0) dX4_init_10 (by decide) ?_
  refine pv_iastorej (pc := 11) dX4_init_11 (by decide) (tl_at (k := 7) (i := 6) rfl (by decide) rfl) (j := 0) (by decide) (by unfold vp_in; decide) ?_
  refine pv_dup (pc := 12) dX4_init_12 rfl ?_
  refine pv_iconst (pc := 13) (v := 1) dX4_init_13 (by decide) ?_
  refine pv_iconst (pc := 14) (v := 1) dX4_init_14 (by decide) ?_
  refine pv_iastorej (pc := 15) dX4_init_15 (by decide) (tl_at (k := 7) (i := 6) rfl (by decide) rfl) (j := 1) (by decide) (by unfold vp_in; decide) ?_
  refine pv_dup (pc := 16) dX4_init_16 rfl ?_
  refine pv_iconst (pc := 17) (v := 2) dX4_init_17 (by decide) ?_
  refine pv_iconst (pc := 18) (v := 2) dX4_init_18 (by decide) ?_
  refine pv_iastorej (pc := 19) dX4_init_19 (by decide) (tl_at (k := 7) (i := 6) rfl (by decide) rfl) (j := 2) (by decide) (by unfold vp_in; decide) ?_
  refine pv_dup (pc := 20) dX4_init_20 rfl ?_
  refine pv_iconst (pc := 21) (v := 3) dX4_init_21 (by decide) ?_
  refine pv_iconst (pc := 22) (v := 3) dX4_init_22 (by decide) ?_
  refine pv_iastorej (pc := 23) dX4_init_23 (by decide) (tl_at (k := 7) (i := 6) rfl (by decide) rfl) (j := 3) (by decide) (by unfold vp_in; decide) ?_
  refine pv_putR (pc := 24) (M := mX4_init) (idx := 9) dX4_init_24 fl_X4_9_4 (fun _ => rfl) rfl (by decide) (tl_at (k := 7) (i := 5) rfl (by decide) rfl) (o := some _) rfl ?_
  refine pv_aload_0 (pc := 27) dX4_init_27 ?_
  refine pv_lconst (pc := 28) (v := 1) dX4_init_28 (by decide) ?_
  refine pv_putL (pc := 29) dX4_init_29 fl_X4_15_4 (fun q => by cases q) (by decide) (tl_at (k := 7) (i := 5) rfl (by decide) rfl) ?_
  refine pv_aload_0 (pc := 32) dX4_init_32 ?_
  refine pv_iconst (pc := 33) (v := 1) dX4_init_33 (by decide) ?_
  refine pv_putI (pc := 34) dX4_init_34 fl_X4_19_4 (fun q => by cases q) ⟨rfl, rfl, rfl⟩ (by decide) (tl_at (k := 7) (i := 5) rfl (by decide) rfl) ?_
  refine pv_vret (pc := 37) dX4_init_37 rfl ?_
  exact ⟨rfl, rfl, rfl, rfl, rfl⟩

set_option maxRecDepth 100000 in
set_option maxHeartbeats 4000000 in
theorem c_ini_X4_23 {G : pv_G} {d : Nat} {I : pv_I} {L : pv_L} {Rf : pv_R} (hd : 2 ≤ d) : pv_Mt G mX4_init d 1 4 [.ref 23] (pv_tl G 8) I L Rf (pv_is none (pv_tl G 9) (pv_u (pv_u (pv_u (pv_u (pv_u (pv_ur (I) 24 fun _ => 0) 24 0 0) 24 1 1) 24 2 2) 24 3 3) 23 6 1) (pv_u (pv_ur (L) 24 fun _ => 0) 23 2 1) (pv_u (pv_ur (Rf) 24 fun _ => none) 23 0 (some 24))) := by
  refine pv_mt mgX4_init.2.2.2.2.2 [.ref 23] rfl (Nat.le_of_ble_eq_true rfl) ?_
  refine pv_aload_0 (pc := 0) dX4_init_0 ?_
  refine pv_objInit (pc := 1) dX4_init_1 ol_X4_3 oi_1 oi_2 (by omega) (by decide) ?_
  refine pv_aload_0 (pc := 4) dX4_init_4 ?_
  refine pv_iconst (pc := 5) (v := 4) dX4_init_5 (by decide) ?_
  refine pa_newI (pc := 6) (k := 8) (A := 24) (N := 4) (bc := 0) (bs := 0) dX4_init_6 ac_int (by decide) (by decide) (by decide) rfl rfl ?_
  refine pv_dup (pc := 8) dX4_init_8 rfl ?_
  refine pv_iconst (pc := 9) (v := 0) dX4_init_9 (by decide) ?_
  refine pv_iconst (pc := 10) (v := 0) dX4_init_10 (by decide) ?_
  refine pv_iastorej (pc := 11) dX4_init_11 (by decide) (tl_at (k := 9) (i := 8) rfl (by decide) rfl) (j := 0) (by decide) (by unfold vp_in; decide) ?_
  refine pv_dup (pc := 12) dX4_init_12 rfl ?_
  refine pv_iconst (pc := 13) (v := 1) dX4_init_13 (by decide) ?_
  refine pv_iconst (pc := 14) (v := 1) dX4_init_14 (by decide) ?_
  refine pv_iastorej (pc := 15) dX4_init_15 (by decide) (tl_at (k := 9) (i := 8) rfl (by decide) rfl) (j := 1) (by decide) (by unfold vp_in; decide) ?_
  refine pv_dup (pc := 16) dX4_init_16 rfl ?_
  refine pv_iconst (pc := 17) (v := 2) dX4_init_17 (by decide) ?_
  refine pv_iconst (pc := 18) (v := 2) dX4_init_18 (by decide) ?_
  refine pv_iastorej (pc := 19) dX4_init_19 (by decide) (tl_at (k := 9) (i := 8) rfl (by decide) rfl) (j := 2) (by decide) (by unfold vp_in; decide) ?_
  refine pv_dup (pc := 20) dX4_init_20 rfl ?_
  refine pv_iconst (pc := 21) (v := 3) dX4_init_21 (by decide) ?_
  refine pv_iconst (pc := 22) (v := 3) dX4_init_22 (by decide) ?_
  refine pv_iastorej (pc := 23) dX4_init_23 (by decide) (tl_at (k := 9) (i := 8) rfl (by decide) rfl) (j := 3) (by decide) (by unfold vp_in; decide) ?_
  refine pv_putR (pc := 24) (M := mX4_init) (idx := 9) dX4_init_24 fl_X4_9_4 (fun _ => rfl) rfl (by decide) (tl_at (k := 9) (i := 7) rfl (by decide) rfl) (o := some _) rfl ?_
  refine pv_aload_0 (pc := 27) dX4_init_27 ?_
  refine pv_lconst (pc := 28) (v := 1) dX4_init_28 (by decide) ?_
  refine pv_putL (pc := 29) dX4_init_29 fl_X4_15_4 (fun q => by cases q) (by decide) (tl_at (k := 9) (i := 7) rfl (by decide) rfl) ?_
  refine pv_aload_0 (pc := 32) dX4_init_32 ?_
  refine pv_iconst (pc := 33) (v := 1) dX4_init_33 (by decide) ?_
  refine pv_putI (pc := 34) dX4_init_34 fl_X4_19_4 (fun q => by cases q) ⟨rfl, rfl, rfl⟩ (by decide) (tl_at (k := 9) (i := 7) rfl (by decide) rfl) ?_
  refine pv_vret (pc := 37) dX4_init_37 rfl ?_
  exact ⟨rfl, rfl, rfl, rfl, rfl⟩

set_option maxRecDepth 100000 in
set_option maxHeartbeats 4000000 in
theorem c_ini_X4_25 {G : pv_G} {d : Nat} {I : pv_I} {L : pv_L} {Rf : pv_R} (hd : 2 ≤ d) : pv_Mt G mX4_init d 1 4 [.ref 25] (pv_tl G 10) I L Rf (pv_is none (pv_tl G 11) (pv_u (pv_u (pv_u (pv_u (pv_u (pv_ur (I) 26 fun _ => 0) 26 0 0) 26 1 1) 26 2 2) 26 3 3) 25 6 1) (pv_u (pv_ur (L) 26 fun _ => 0) 25 2 1) (pv_u (pv_ur (Rf) 26 fun _ => none) 25 0 (some 26))) := by
  refine pv_mt mgX4_init.2.2.2.2.2 [.ref 25] rfl (Nat.le_of_ble_eq_true rfl) ?_
  refine pv_aload_0 (pc := 0) dX4_init_0 ?_
  refine pv_objInit (pc := 1) dX4_init_1 ol_X4_3 oi_1 oi_2 (by omega) (by decide) ?_
  refine pv_aload_0 (pc := 4) dX4_init_4 ?_
  refine pv_iconst (pc := 5) (v := 4) dX4_init_5 (by decide) ?_
  refine pa_newI (pc := 6) (k := 10) (A := 26) (N := 4) (bc := 0) (bs := 0) dX4_init_6 ac_int (by decide) (by decide) (by decide) rfl rfl ?_
  refine pv_dup (pc := 8) dX4_init_8 rfl ?_
  refine pv_iconst (pc := 9) (v := 0) dX4_init_9 (by decide) ?_
  refine pv_iconst (pc := 10) (v := 0) dX4_init_10 (by decide) ?_
  refine pv_iastorej (pc := 11) dX4_init_11 (by decide) (tl_at (k := 11) (i := 10) rfl (by decide) rfl) (j := 0) (by decide) (by unfold vp_in; decide) ?_
  refine pv_dup (pc := 12) dX4_init_12 rfl ?_
  refine pv_iconst (pc := 13) (v := 1) dX4_init_13 (by decide) ?_
  refine pv_iconst (pc := 14) (v := 1) dX4_init_14 (by decide) ?_
  refine pv_iastorej (pc := 15) dX4_init_15 (by decide) (tl_at (k := 11) (i := 10) rfl (by decide) rfl) (j := 1) (by decide) (by unfold vp_in; decide) ?_
  refine pv_dup (pc := 16) dX4_init_16 rfl ?_
  refine pv_iconst (pc := 17) (v := 2) dX4_init_17 (by decide) ?_
  refine pv_iconst (pc := 18) (v := 2) dX4_init_18 (by decide) ?_
  refine pv_iastorej (pc := 19) dX4_init_19 (by decide) (tl_at (k := 11) (i := 10) rfl (by decide) rfl) (j := 2) (by decide) (by unfold vp_in; decide) ?_
  refine pv_dup (pc := 20) dX4_init_20 rfl ?_
  refine pv_iconst (pc := 21) (v := 3) dX4_init_21 (by decide) ?_
  refine pv_iconst (pc := 22) (v := 3) dX4_init_22 (by decide) ?_
  refine pv_iastorej (pc := 23) dX4_init_23 (by decide) (tl_at (k := 11) (i := 10) rfl (by decide) rfl) (j := 3) (by decide) (by unfold vp_in; decide) ?_
  refine pv_putR (pc := 24) (M := mX4_init) (idx := 9) dX4_init_24 fl_X4_9_4 (fun _ => rfl) rfl (by decide) (tl_at (k := 11) (i := 9) rfl (by decide) rfl) (o := some _) rfl ?_
  refine pv_aload_0 (pc := 27) dX4_init_27 ?_
  refine pv_lconst (pc := 28) (v := 1) dX4_init_28 (by decide) ?_
  refine pv_putL (pc := 29) dX4_init_29 fl_X4_15_4 (fun q => by cases q) (by decide) (tl_at (k := 11) (i := 9) rfl (by decide) rfl) ?_
  refine pv_aload_0 (pc := 32) dX4_init_32 ?_
  refine pv_iconst (pc := 33) (v := 1) dX4_init_33 (by decide) ?_
  refine pv_putI (pc := 34) dX4_init_34 fl_X4_19_4 (fun q => by cases q) ⟨rfl, rfl, rfl⟩ (by decide) (tl_at (k := 11) (i := 9) rfl (by decide) rfl) ?_
  refine pv_vret (pc := 37) dX4_init_37 rfl ?_
  exact ⟨rfl, rfl, rfl, rfl, rfl⟩

set_option maxRecDepth 100000 in
set_option maxHeartbeats 4000000 in
theorem c_ini_X4_27 {G : pv_G} {d : Nat} {I : pv_I} {L : pv_L} {Rf : pv_R} (hd : 2 ≤ d) : pv_Mt G mX4_init d 1 4 [.ref 27] (pv_tl G 12) I L Rf (pv_is none (pv_tl G 13) (pv_u (pv_u (pv_u (pv_u (pv_u (pv_ur (I) 28 fun _ => 0) 28 0 0) 28 1 1) 28 2 2) 28 3 3) 27 6 1) (pv_u (pv_ur (L) 28 fun _ => 0) 27 2 1) (pv_u (pv_ur (Rf) 28 fun _ => none) 27 0 (some 28))) := by
  refine pv_mt mgX4_init.2.2.2.2.2 [.ref 27] rfl (Nat.le_of_ble_eq_true rfl) ?_
  refine pv_aload_0 (pc := 0) dX4_init_0 ?_
  refine pv_objInit (pc := 1) dX4_init_1 ol_X4_3 oi_1 oi_2 (by omega) (by decide) ?_
  refine pv_aload_0 (pc := 4) dX4_init_4 ?_
  refine pv_iconst (pc := 5) (v := 4) dX4_init_5 (by decide) ?_
  refine pa_newI (pc := 6) (k := 12) (A := 28) (N := 4) (bc := 0) (bs := 0) dX4_init_6 ac_int (by decide) (by decide) (by decide) rfl rfl ?_
  refine pv_dup (pc := 8) dX4_init_8 rfl ?_
  refine pv_iconst (pc := 9) (v := 0) dX4_init_9 (by decide) ?_
  refine pv_iconst (pc := 10) (v := 0) dX4_init_10 (by decide) ?_
  refine pv_iastorej (pc := 11) dX4_init_11 (by decide) (tl_at (k := 13) (i := 12) rfl (by decide) rfl) (j := 0) (by decide) (by unfold vp_in; decide) ?_
  refine pv_dup (pc := 12) dX4_init_12 rfl ?_
  refine pv_iconst (pc := 13) (v := 1) dX4_init_13 (by decide) ?_
  refine pv_iconst (pc := 14) (v := 1) dX4_init_14 (by decide) ?_
  refine pv_iastorej (pc := 15) dX4_init_15 (by decide) (tl_at (k := 13) (i := 12) rfl (by decide) rfl) (j := 1) (by decide) (by unfold vp_in; decide) ?_
  refine pv_dup (pc := 16) dX4_init_16 rfl ?_
  refine pv_iconst (pc := 17) (v := 2) dX4_init_17 (by decide) ?_
  refine pv_iconst (pc := 18) (v := 2) dX4_init_18 (by decide) ?_
  refine pv_iastorej (pc := 19) dX4_init_19 (by decide) (tl_at (k := 13) (i := 12) rfl (by decide) rfl) (j := 2) (by decide) (by unfold vp_in; decide) ?_
  refine pv_dup (pc := 20) dX4_init_20 rfl ?_
  refine pv_iconst (pc := 21) (v := 3) dX4_init_21 (by decide) ?_
  refine pv_iconst (pc := 22) (v := 3) dX4_init_22 (by decide) ?_
  refine pv_iastorej (pc := 23) dX4_init_23 (by decide) (tl_at (k := 13) (i := 12) rfl (by decide) rfl) (j := 3) (by decide) (by unfold vp_in; decide) ?_
  refine pv_putR (pc := 24) (M := mX4_init) (idx := 9) dX4_init_24 fl_X4_9_4 (fun _ => rfl) rfl (by decide) (tl_at (k := 13) (i := 11) rfl (by decide) rfl) (o := some _) rfl ?_
  refine pv_aload_0 (pc := 27) dX4_init_27 ?_
  refine pv_lconst (pc := 28) (v := 1) dX4_init_28 (by decide) ?_
  refine pv_putL (pc := 29) dX4_init_29 fl_X4_15_4 (fun q => by cases q) (by decide) (tl_at (k := 13) (i := 11) rfl (by decide) rfl) ?_
  refine pv_aload_0 (pc := 32) dX4_init_32 ?_
  refine pv_iconst (pc := 33) (v := 1) dX4_init_33 (by decide) ?_
  refine pv_putI (pc := 34) dX4_init_34 fl_X4_19_4 (fun q => by cases q) ⟨rfl, rfl, rfl⟩ (by decide) (tl_at (k := 13) (i := 11) rfl (by decide) rfl) ?_
  refine pv_vret (pc := 37) dX4_init_37 rfl ?_
  exact ⟨rfl, rfl, rfl, rfl, rfl⟩

set_option maxRecDepth 100000 in
set_option maxHeartbeats 4000000 in
theorem c_ini_X7_29 {G : pv_G} {d : Nat} {I : pv_I} {L : pv_L} {Rf : pv_R} (hd : 2 ≤ d) : pv_Mt G mX7_init d 5 101 [.ref 29] (pv_tl G 14) I L Rf (pv_is none (pv_tl G 19) (pv_ur (pv_ur (pv_ur (pv_ur (pv_ur (I) 30 fun _ => 0) 31 fun _ => 0) 32 fun _ => 0) 33 fun _ => 0) 34 fun _ => 0) (pv_ur (pv_ur (pv_ur (pv_ur (pv_ur (L) 30 fun _ => 0) 31 fun _ => 0) 32 fun _ => 0) 33 fun _ => 0) 34 fun _ => 0) (pv_u (pv_ur (pv_u (pv_ur (pv_u (pv_ur (pv_u (pv_ur (pv_u (pv_ur (Rf) 30 fun _ => none) 29 0 (some 30)) 31 fun _ => none) 29 1 (some 31)) 32 fun _ => none) 29 2 (some 32)) 33 fun _ => none) 29 3 (some 33)) 34 fun _ => none) 29 4 (some 34))) := by
  refine pv_mt mgX7_init.2.2.2.2.2 [.ref 29] rfl (Nat.le_of_ble_eq_true rfl) ?_
  refine pv_aload_0 (pc := 0) dX7_init_0 ?_
  refine pv_objInit (pc := 1) dX7_init_1 ol_X7_3 oi_1 oi_2 (by omega) (by decide) ?_
  refine pv_aload_0 (pc := 4) dX7_init_4 ?_
  refine pv_bipush (pc := 5) (v := 40) dX7_init_5 (by decide) ?_
  refine pa_newL (pc := 7) (k := 14) (A := 30) (N := 40) (bc := 4) (bs := 61) dX7_init_7 ac_long (by decide) (by decide) (by decide) rfl rfl ?_
  refine pv_putR (pc := 9) (M := mX7_init) (idx := 9) dX7_init_9 fl_X7_9_7 (fun _ => rfl) rfl (by decide) (tl_at (k := 15) (i := 13) rfl (by decide) rfl) (o := some _) rfl ?_
  refine pv_aload_0 (pc := 12) dX7_init_12 ?_
  refine pv_bipush (pc := 13) (v := 40) dX7_init_13 (by decide) ?_
  refine pa_newL (pc := 15) (k := 15) (A := 31) (N := 40) (bc := 3) (bs := 21) dX7_init_15 ac_long (by decide) (by decide) (by decide) rfl rfl ?_
  refine pv_putR (pc := 17) (M := mX7_init) (idx := 15) dX7_init_17 fl_X7_15_7 (fun _ => rfl) rfl (by decide) (tl_at (k := 16) (i := 13) rfl (by decide) rfl) (o := some _) rfl ?_
  refine pv_aload_0 (pc := 20) dX7_init_20 ?_
  refine pv_iconst (pc := 21) (v := 3) dX7_init_21 (by decide) ?_
  refine pa_newI (pc := 22) (k := 16) (A := 32) (N := 3) (bc := 2) (bs := 18) dX7_init_22 ac_int (by decide) (by decide) (by decide) rfl rfl ?_
  refine pv_putR (pc := 24) (M := mX7_init) (idx := 18) dX7_init_24 fl_X7_18_7 (fun _ => rfl) rfl (by decide) (tl_at (k := 17) (i := 13) rfl (by decide) rfl) (o := some _) rfl ?_
  refine pv_aload_0 (pc := 27) dX7_init_27 ?_
  refine pv_bipush (pc := 28) (v := 9) dX7_init_28 (by decide) ?_
  refine pa_newI (pc := 30) (k := 17) (A := 33) (N := 9) (bc := 1) (bs := 9) dX7_init_30 ac_int (by decide) (by decide) (by decide) rfl rfl ?_
  refine pv_putR (pc := 32) (M := mX7_init) (idx := 22) dX7_init_32 fl_X7_22_7 (fun _ => rfl) rfl (by decide) (tl_at (k := 18) (i := 13) rfl (by decide) rfl) (o := some _) rfl ?_
  refine pv_aload_0 (pc := 35) dX7_init_35 ?_
  refine pv_bipush (pc := 36) (v := 9) dX7_init_36 (by decide) ?_
  refine pa_newI (pc := 38) (k := 18) (A := 34) (N := 9) (bc := 0) (bs := 0) dX7_init_38 ac_int (by decide) (by decide) (by decide) rfl rfl ?_
  refine pv_putR (pc := 40) (M := mX7_init) (idx := 25) dX7_init_40 fl_X7_25_7 (fun _ => rfl) rfl (by decide) (tl_at (k := 19) (i := 13) rfl (by decide) rfl) (o := some _) rfl ?_
  refine pv_vret (pc := 43) dX7_init_43 rfl ?_
  exact ⟨rfl, rfl, rfl, rfl, rfl⟩

set_option maxRecDepth 100000 in
set_option maxHeartbeats 4000000 in
theorem c_ini_X2_35 {G : pv_G} {d : Nat} {I : pv_I} {L : pv_L} {Rf : pv_R} (hd : 2 ≤ d) : pv_Mt G mX2_init d 4 1984 [.ref 35] (pv_tl G 20) I L Rf (pv_is none (pv_tl G 24) (pv_ur (pv_ur (pv_ur (pv_ur (I) 36 fun _ => 0) 37 fun _ => 0) 38 fun _ => 0) 39 fun _ => 0) (pv_ur (pv_ur (pv_ur (pv_ur (L) 36 fun _ => 0) 37 fun _ => 0) 38 fun _ => 0) 39 fun _ => 0) (pv_u (pv_ur (pv_u (pv_ur (pv_u (pv_ur (pv_u (pv_ur (Rf) 36 fun _ => none) 35 0 (some 36)) 37 fun _ => none) 35 1 (some 37)) 38 fun _ => none) 35 2 (some 38)) 39 fun _ => none) 35 3 (some 39))) := by
  refine pv_mt mgX2_init.2.2.2.2.2 [.ref 35] rfl (Nat.le_of_ble_eq_true rfl) ?_
  refine pv_aload_0 (pc := 0) dX2_init_0 ?_
  refine pv_objInit (pc := 1) dX2_init_1 ol_X2_1 oi_1 oi_2 (by omega) (by decide) ?_
  refine pv_aload_0 (pc := 4) dX2_init_4 ?_
  refine pv_sipush (pc := 5) (v := 320) dX2_init_5 (by decide) ?_
  refine pa_newL (pc := 8) (k := 20) (A := 36) (N := 320) (bc := 3) (bs := 1664) dX2_init_8 ac_long (by decide) (by decide) (by decide) rfl rfl ?_
  refine pv_putR (pc := 10) (M := mX2_init) (idx := 9) dX2_init_10 fl_X2_9_2 (fun _ => rfl) rfl (by decide) (tl_at (k := 21) (i := 19) rfl (by decide) rfl) (o := some _) rfl ?_
  refine pv_aload_0 (pc := 13) dX2_init_13 ?_
  refine pv_sipush (pc := 14) (v := 320) dX2_init_14 (by decide) ?_
  refine pa_newL (pc := 17) (k := 21) (A := 37) (N := 320) (bc := 2) (bs := 1344) dX2_init_17 ac_long (by decide) (by decide) (by decide) rfl rfl ?_
  refine pv_putR (pc := 19) (M := mX2_init) (idx := 13) dX2_init_19 fl_X2_13_2 (fun _ => rfl) rfl (by decide) (tl_at (k := 22) (i := 19) rfl (by decide) rfl) (o := some _) rfl ?_
  refine pv_aload_0 (pc := 22) dX2_init_22 ?_
  refine pv_sipush (pc := 23) (v := 320) dX2_init_23 (by decide) ?_
  refine pa_newI (pc := 26) (k := 22) (A := 38) (N := 320) (bc := 1) (bs := 1024) dX2_init_26 ac_int (by decide) (by decide) (by decide) rfl rfl ?_
  refine pv_putR (pc := 28) (M := mX2_init) (idx := 16) dX2_init_28 fl_X2_16_2 (fun _ => rfl) rfl (by decide) (tl_at (k := 23) (i := 19) rfl (by decide) rfl) (o := some _) rfl ?_
  refine pv_aload_0 (pc := 31) dX2_init_31 ?_
  refine pv_sipush (pc := 32) (v := 1024) dX2_init_32 (by decide) ?_
  refine pa_newI (pc := 35) (k := 23) (A := 39) (N := 1024) (bc := 0) (bs := 0) dX2_init_35 ac_int (by decide) (by decide) (by decide) rfl rfl ?_
  refine pv_putR (pc := 37) (M := mX2_init) (idx := 20) dX2_init_37 fl_X2_20_2 (fun _ => rfl) rfl (by decide) (tl_at (k := 24) (i := 19) rfl (by decide) rfl) (o := some _) rfl ?_
  refine pv_vret (pc := 40) dX2_init_40 rfl ?_
  exact ⟨rfl, rfl, rfl, rfl, rfl⟩

set_option maxRecDepth 100000 in
set_option maxHeartbeats 4000000 in
theorem c_ini_X2_40 {G : pv_G} {d : Nat} {I : pv_I} {L : pv_L} {Rf : pv_R} (hd : 2 ≤ d) : pv_Mt G mX2_init d 4 1984 [.ref 40] (pv_tl G 25) I L Rf (pv_is none (pv_tl G 29) (pv_ur (pv_ur (pv_ur (pv_ur (I) 41 fun _ => 0) 42 fun _ => 0) 43 fun _ => 0) 44 fun _ => 0) (pv_ur (pv_ur (pv_ur (pv_ur (L) 41 fun _ => 0) 42 fun _ => 0) 43 fun _ => 0) 44 fun _ => 0) (pv_u (pv_ur (pv_u (pv_ur (pv_u (pv_ur (pv_u (pv_ur (Rf) 41 fun _ => none) 40 0 (some 41)) 42 fun _ => none) 40 1 (some 42)) 43 fun _ => none) 40 2 (some 43)) 44 fun _ => none) 40 3 (some 44))) := by
  refine pv_mt mgX2_init.2.2.2.2.2 [.ref 40] rfl (Nat.le_of_ble_eq_true rfl) ?_
  refine pv_aload_0 (pc := 0) dX2_init_0 ?_
  refine pv_objInit (pc := 1) dX2_init_1 ol_X2_1 oi_1 oi_2 (by omega) (by decide) ?_
  refine pv_aload_0 (pc := 4) dX2_init_4 ?_
  refine pv_sipush (pc := 5) (v := 320) dX2_init_5 (by decide) ?_
  refine pa_newL (pc := 8) (k := 25) (A := 41) (N := 320) (bc := 3) (bs := 1664) dX2_init_8 ac_long (by decide) (by decide) (by decide) rfl rfl ?_
  refine pv_putR (pc := 10) (M := mX2_init) (idx := 9) dX2_init_10 fl_X2_9_2 (fun _ => rfl) rfl (by decide) (tl_at (k := 26) (i := 24) rfl (by decide) rfl) (o := some _) rfl ?_
  refine pv_aload_0 (pc := 13) dX2_init_13 ?_
  refine pv_sipush (pc := 14) (v := 320) dX2_init_14 (by decide) ?_
  refine pa_newL (pc := 17) (k := 26) (A := 42) (N := 320) (bc := 2) (bs := 1344) dX2_init_17 ac_long (by decide) (by decide) (by decide) rfl rfl ?_
  refine pv_putR (pc := 19) (M := mX2_init) (idx := 13) dX2_init_19 fl_X2_13_2 (fun _ => rfl) rfl (by decide) (tl_at (k := 27) (i := 24) rfl (by decide) rfl) (o := some _) rfl ?_
  refine pv_aload_0 (pc := 22) dX2_init_22 ?_
  refine pv_sipush (pc := 23) (v := 320) dX2_init_23 (by decide) ?_
  refine pa_newI (pc := 26) (k := 27) (A := 43) (N := 320) (bc := 1) (bs := 1024) dX2_init_26 ac_int (by decide) (by decide) (by decide) rfl rfl ?_
  refine pv_putR (pc := 28) (M := mX2_init) (idx := 16) dX2_init_28 fl_X2_16_2 (fun _ => rfl) rfl (by decide) (tl_at (k := 28) (i := 24) rfl (by decide) rfl) (o := some _) rfl ?_
  refine pv_aload_0 (pc := 31) dX2_init_31 ?_
  refine pv_sipush (pc := 32) (v := 1024) dX2_init_32 (by decide) ?_
  refine pa_newI (pc := 35) (k := 28) (A := 44) (N := 1024) (bc := 0) (bs := 0) dX2_init_35 ac_int (by decide) (by decide) (by decide) rfl rfl ?_
  refine pv_putR (pc := 37) (M := mX2_init) (idx := 20) dX2_init_37 fl_X2_20_2 (fun _ => rfl) rfl (by decide) (tl_at (k := 29) (i := 24) rfl (by decide) rfl) (o := some _) rfl ?_
  refine pv_vret (pc := 40) dX2_init_40 rfl ?_
  exact ⟨rfl, rfl, rfl, rfl, rfl⟩

set_option maxRecDepth 100000 in
set_option maxHeartbeats 4000000 in
theorem c_ini_X8_45 {G : pv_G} {d : Nat} {I : pv_I} {L : pv_L} {Rf : pv_R} (hd : 2 ≤ d) : pv_Mt G mX8_init d 1 160 [.ref 45] (pv_tl G 30) I L Rf (pv_is none (pv_tl G 31) (pv_u (pv_u (pv_u (pv_ur (I) 46 fun _ => 0) 45 1 (-1)) 45 3 (-1)) 45 6 (-1)) (pv_ur (L) 46 fun _ => 0) (pv_u (pv_ur (Rf) 46 fun _ => none) 45 0 (some 46))) := by
  refine pv_mt mgX8_init.2.2.2.2.2 [.ref 45] rfl (Nat.le_of_ble_eq_true rfl) ?_
  refine pv_aload_0 (pc := 0) dX8_init_0 ?_
  refine pv_objInit (pc := 1) dX8_init_1 ol_X8_3 oi_1 oi_2 (by omega) (by decide) ?_
  refine pv_aload_0 (pc := 4) dX8_init_4 ?_
  refine pv_sipush (pc := 5) (v := 160) dX8_init_5 (by decide) ?_
  refine pa_newL (pc := 8) (k := 30) (A := 46) (N := 160) (bc := 0) (bs := 0) dX8_init_8 ac_long (by decide) (by decide) (by decide) rfl rfl ?_
  refine pv_putR (pc := 10) (M := mX8_init) (idx := 9) dX8_init_10 fl_X8_9_8 (fun _ => rfl) rfl (by decide) (tl_at (k := 31) (i := 29) rfl (by decide) rfl) (o := some _) rfl ?_
  refine pv_aload_0 (pc := 13) dX8_init_13 ?_
  refine pv_iconst (pc := 14) (v := (-1)) dX8_init_14 (by decide) ?_
  refine pv_putI (pc := 15) dX8_init_15 fl_X8_15_8 (fun q => by cases q) ⟨rfl, rfl, rfl⟩ (by decide) (tl_at (k := 31) (i := 29) rfl (by decide) rfl) ?_
  refine pv_aload_0 (pc := 18) dX8_init_18 ?_
  refine pv_iconst (pc := 19) (v := (-1)) dX8_init_19 (by decide) ?_
  refine pv_putI (pc := 20) dX8_init_20 fl_X8_19_8 (fun q => by cases q) ⟨rfl, rfl, rfl⟩ (by decide) (tl_at (k := 31) (i := 29) rfl (by decide) rfl) ?_
  refine pv_aload_0 (pc := 23) dX8_init_23 ?_
  refine pv_iconst (pc := 24) (v := (-1)) dX8_init_24 (by decide) ?_
  refine pv_putI (pc := 25) dX8_init_25 fl_X8_22_8 (fun q => by cases q) ⟨rfl, rfl, rfl⟩ (by decide) (tl_at (k := 31) (i := 29) rfl (by decide) rfl) ?_
  refine pv_vret (pc := 28) dX8_init_28 rfl ?_
  exact ⟨rfl, rfl, rfl, rfl, rfl⟩

set_option maxRecDepth 100000 in
set_option maxHeartbeats 4000000 in
theorem c_ini_X8_47 {G : pv_G} {d : Nat} {I : pv_I} {L : pv_L} {Rf : pv_R} (hd : 2 ≤ d) : pv_Mt G mX8_init d 1 160 [.ref 47] (pv_tl G 32) I L Rf (pv_is none (pv_tl G 33) (pv_u (pv_u (pv_u (pv_ur (I) 48 fun _ => 0) 47 1 (-1)) 47 3 (-1)) 47 6 (-1)) (pv_ur (L) 48 fun _ => 0) (pv_u (pv_ur (Rf) 48 fun _ => none) 47 0 (some 48))) := by
  refine pv_mt mgX8_init.2.2.2.2.2 [.ref 47] rfl (Nat.le_of_ble_eq_true rfl) ?_
  refine pv_aload_0 (pc := 0) dX8_init_0 ?_
  refine pv_objInit (pc := 1) dX8_init_1 ol_X8_3 oi_1 oi_2 (by omega) (by decide) ?_
  refine pv_aload_0 (pc := 4) dX8_init_4 ?_
  refine pv_sipush (pc := 5) (v := 160) dX8_init_5 (by decide) ?_
  refine pa_newL (pc := 8) (k := 32) (A := 48) (N := 160) (bc := 0) (bs := 0) dX8_init_8 ac_long (by decide) (by decide) (by decide) rfl rfl ?_
  refine pv_putR (pc := 10) (M := mX8_init) (idx := 9) dX8_init_10 fl_X8_9_8 (fun _ => rfl) rfl (by decide) (tl_at (k := 33) (i := 31) rfl (by decide) rfl) (o := some _) rfl ?_
  refine pv_aload_0 (pc := 13) dX8_init_13 ?_
  refine pv_iconst (pc := 14) (v := (-1)) dX8_init_14 (by decide) ?_
  refine pv_putI (pc := 15) dX8_init_15 fl_X8_15_8 (fun q => by cases q) ⟨rfl, rfl, rfl⟩ (by decide) (tl_at (k := 33) (i := 31) rfl (by decide) rfl) ?_
  refine pv_aload_0 (pc := 18) dX8_init_18 ?_
  refine pv_iconst (pc := 19) (v := (-1)) dX8_init_19 (by decide) ?_
  refine pv_putI (pc := 20) dX8_init_20 fl_X8_19_8 (fun q => by cases q) ⟨rfl, rfl, rfl⟩ (by decide) (tl_at (k := 33) (i := 31) rfl (by decide) rfl) ?_
  refine pv_aload_0 (pc := 23) dX8_init_23 ?_
  refine pv_iconst (pc := 24) (v := (-1)) dX8_init_24 (by decide) ?_
  refine pv_putI (pc := 25) dX8_init_25 fl_X8_22_8 (fun q => by cases q) ⟨rfl, rfl, rfl⟩ (by decide) (tl_at (k := 33) (i := 31) rfl (by decide) rfl) ?_
  refine pv_vret (pc := 28) dX8_init_28 rfl ?_
  exact ⟨rfl, rfl, rfl, rfl, rfl⟩

set_option maxRecDepth 100000 in
set_option maxHeartbeats 4000000 in
theorem c_ini_X8_49 {G : pv_G} {d : Nat} {I : pv_I} {L : pv_L} {Rf : pv_R} (hd : 2 ≤ d) : pv_Mt G mX8_init d 1 160 [.ref 49] (pv_tl G 34) I L Rf (pv_is none (pv_tl G 35) (pv_u (pv_u (pv_u (pv_ur (I) 50 fun _ => 0) 49 1 (-1)) 49 3 (-1)) 49 6 (-1)) (pv_ur (L) 50 fun _ => 0) (pv_u (pv_ur (Rf) 50 fun _ => none) 49 0 (some 50))) := by
  refine pv_mt mgX8_init.2.2.2.2.2 [.ref 49] rfl (Nat.le_of_ble_eq_true rfl) ?_
  refine pv_aload_0 (pc := 0) dX8_init_0 ?_
  refine pv_objInit (pc := 1) dX8_init_1 ol_X8_3 oi_1 oi_2 (by omega) (by decide) ?_
  refine pv_aload_0 (pc := 4) dX8_init_4 ?_
  refine pv_sipush (pc := 5) (v := 160) dX8_init_5 (by decide) ?_
  refine pa_newL (pc := 8) (k := 34) (A := 50) (N := 160) (bc := 0) (bs := 0) dX8_init_8 ac_long (by decide) (by decide) (by decide) rfl rfl ?_
  refine pv_putR (pc := 10) (M := mX8_init) (idx := 9) dX8_init_10 fl_X8_9_8 (fun _ => rfl) rfl (by decide) (tl_at (k := 35) (i := 33) rfl (by decide) rfl) (o := some _) rfl ?_
  refine pv_aload_0 (pc := 13) dX8_init_13 ?_
  refine pv_iconst (pc := 14) (v := (-1)) dX8_init_14 (by decide) ?_
  refine pv_putI (pc := 15) dX8_init_15 fl_X8_15_8 (fun q => by cases q) ⟨rfl, rfl, rfl⟩ (by decide) (tl_at (k := 35) (i := 33) rfl (by decide) rfl) ?_
  refine pv_aload_0 (pc := 18) dX8_init_18 ?_
  refine pv_iconst (pc := 19) (v := (-1)) dX8_init_19 (by decide) ?_
  refine pv_putI (pc := 20) dX8_init_20 fl_X8_19_8 (fun q => by cases q) ⟨rfl, rfl, rfl⟩ (by decide) (tl_at (k := 35) (i := 33) rfl (by decide) rfl) ?_
  refine pv_aload_0 (pc := 23) dX8_init_23 ?_
  refine pv_iconst (pc := 24) (v := (-1)) dX8_init_24 (by decide) ?_
  refine pv_putI (pc := 25) dX8_init_25 fl_X8_22_8 (fun q => by cases q) ⟨rfl, rfl, rfl⟩ (by decide) (tl_at (k := 35) (i := 33) rfl (by decide) rfl) ?_
  refine pv_vret (pc := 28) dX8_init_28 rfl ?_
  exact ⟨rfl, rfl, rfl, rfl, rfl⟩

set_option maxRecDepth 100000 in
set_option maxHeartbeats 4000000 in
theorem c_ini_X8_51 {G : pv_G} {d : Nat} {I : pv_I} {L : pv_L} {Rf : pv_R} (hd : 2 ≤ d) : pv_Mt G mX8_init d 1 160 [.ref 51] (pv_tl G 36) I L Rf (pv_is none (pv_tl G 37) (pv_u (pv_u (pv_u (pv_ur (I) 52 fun _ => 0) 51 1 (-1)) 51 3 (-1)) 51 6 (-1)) (pv_ur (L) 52 fun _ => 0) (pv_u (pv_ur (Rf) 52 fun _ => none) 51 0 (some 52))) := by
  refine pv_mt mgX8_init.2.2.2.2.2 [.ref 51] rfl (Nat.le_of_ble_eq_true rfl) ?_
  refine pv_aload_0 (pc := 0) dX8_init_0 ?_
  refine pv_objInit (pc := 1) dX8_init_1 ol_X8_3 oi_1 oi_2 (by omega) (by decide) ?_
  refine pv_aload_0 (pc := 4) dX8_init_4 ?_
  refine pv_sipush (pc := 5) (v := 160) dX8_init_5 (by decide) ?_
  refine pa_newL (pc := 8) (k := 36) (A := 52) (N := 160) (bc := 0) (bs := 0) dX8_init_8 ac_long (by decide) (by decide) (by decide) rfl rfl ?_
  refine pv_putR (pc := 10) (M := mX8_init) (idx := 9) dX8_init_10 fl_X8_9_8 (fun _ => rfl) rfl (by decide) (tl_at (k := 37) (i := 35) rfl (by decide) rfl) (o := some _) rfl ?_
  refine pv_aload_0 (pc := 13) dX8_init_13 ?_
  refine pv_iconst (pc := 14) (v := (-1)) dX8_init_14 (by decide) ?_
  refine pv_putI (pc := 15) dX8_init_15 fl_X8_15_8 (fun q => by cases q) ⟨rfl, rfl, rfl⟩ (by decide) (tl_at (k := 37) (i := 35) rfl (by decide) rfl) ?_
  refine pv_aload_0 (pc := 18) dX8_init_18 ?_
  refine pv_iconst (pc := 19) (v := (-1)) dX8_init_19 (by decide) ?_
  refine pv_putI (pc := 20) dX8_init_20 fl_X8_19_8 (fun q => by cases q) ⟨rfl, rfl, rfl⟩ (by decide) (tl_at (k := 37) (i := 35) rfl (by decide) rfl) ?_
  refine pv_aload_0 (pc := 23) dX8_init_23 ?_
  refine pv_iconst (pc := 24) (v := (-1)) dX8_init_24 (by decide) ?_
  refine pv_putI (pc := 25) dX8_init_25 fl_X8_22_8 (fun q => by cases q) ⟨rfl, rfl, rfl⟩ (by decide) (tl_at (k := 37) (i := 35) rfl (by decide) rfl) ?_
  refine pv_vret (pc := 28) dX8_init_28 rfl ?_
  exact ⟨rfl, rfl, rfl, rfl, rfl⟩

set_option maxRecDepth 100000 in
set_option maxHeartbeats 4000000 in
theorem c_ini_X8_53 {G : pv_G} {d : Nat} {I : pv_I} {L : pv_L} {Rf : pv_R} (hd : 2 ≤ d) : pv_Mt G mX8_init d 1 160 [.ref 53] (pv_tl G 38) I L Rf (pv_is none (pv_tl G 39) (pv_u (pv_u (pv_u (pv_ur (I) 54 fun _ => 0) 53 1 (-1)) 53 3 (-1)) 53 6 (-1)) (pv_ur (L) 54 fun _ => 0) (pv_u (pv_ur (Rf) 54 fun _ => none) 53 0 (some 54))) := by
  refine pv_mt mgX8_init.2.2.2.2.2 [.ref 53] rfl (Nat.le_of_ble_eq_true rfl) ?_
  refine pv_aload_0 (pc := 0) dX8_init_0 ?_
  refine pv_objInit (pc := 1) dX8_init_1 ol_X8_3 oi_1 oi_2 (by omega) (by decide) ?_
  refine pv_aload_0 (pc := 4) dX8_init_4 ?_
  refine pv_sipush (pc := 5) (v := 160) dX8_init_5 (by decide) ?_
  refine pa_newL (pc := 8) (k := 38) (A := 54) (N := 160) (bc := 0) (bs := 0) dX8_init_8 ac_long (by decide) (by decide) (by decide) rfl rfl ?_
  refine pv_putR (pc := 10) (M := mX8_init) (idx := 9) dX8_init_10 fl_X8_9_8 (fun _ => rfl) rfl (by decide) (tl_at (k := 39) (i := 37) rfl (by decide) rfl) (o := some _) rfl ?_
  refine pv_aload_0 (pc := 13) dX8_init_13 ?_
  refine pv_iconst (pc := 14) (v := (-1)) dX8_init_14 (by decide) ?_
  refine pv_putI (pc := 15) dX8_init_15 fl_X8_15_8 (fun q => by cases q) ⟨rfl, rfl, rfl⟩ (by decide) (tl_at (k := 39) (i := 37) rfl (by decide) rfl) ?_
  refine pv_aload_0 (pc := 18) dX8_init_18 ?_
  refine pv_iconst (pc := 19) (v := (-1)) dX8_init_19 (by decide) ?_
  refine pv_putI (pc := 20) dX8_init_20 fl_X8_19_8 (fun q => by cases q) ⟨rfl, rfl, rfl⟩ (by decide) (tl_at (k := 39) (i := 37) rfl (by decide) rfl) ?_
  refine pv_aload_0 (pc := 23) dX8_init_23 ?_
  refine pv_iconst (pc := 24) (v := (-1)) dX8_init_24 (by decide) ?_
  refine pv_putI (pc := 25) dX8_init_25 fl_X8_22_8 (fun q => by cases q) ⟨rfl, rfl, rfl⟩ (by decide) (tl_at (k := 39) (i := 37) rfl (by decide) rfl) ?_
  refine pv_vret (pc := 28) dX8_init_28 rfl ?_
  exact ⟨rfl, rfl, rfl, rfl, rfl⟩

set_option maxRecDepth 100000 in
set_option maxHeartbeats 4000000 in
theorem c_ini_X8_55 {G : pv_G} {d : Nat} {I : pv_I} {L : pv_L} {Rf : pv_R} (hd : 2 ≤ d) : pv_Mt G mX8_init d 1 160 [.ref 55] (pv_tl G 40) I L Rf (pv_is none (pv_tl G 41) (pv_u (pv_u (pv_u (pv_ur (I) 56 fun _ => 0) 55 1 (-1)) 55 3 (-1)) 55 6 (-1)) (pv_ur (L) 56 fun _ => 0) (pv_u (pv_ur (Rf) 56 fun _ => none) 55 0 (some 56))) := by
  refine pv_mt mgX8_init.2.2.2.2.2 [.ref 55] rfl (Nat.le_of_ble_eq_true rfl) ?_
  refine pv_aload_0 (pc := 0) dX8_init_0 ?_
  refine pv_objInit (pc := 1) dX8_init_1 ol_X8_3 oi_1 oi_2 (by omega) (by decide) ?_
  refine pv_aload_0 (pc := 4) dX8_init_4 ?_
  refine pv_sipush (pc := 5) (v := 160) dX8_init_5 (by decide) ?_
  refine pa_newL (pc := 8) (k := 40) (A := 56) (N := 160) (bc := 0) (bs := 0) dX8_init_8 ac_long (by decide) (by decide) (by decide) rfl rfl ?_
  refine pv_putR (pc := 10) (M := mX8_init) (idx := 9) dX8_init_10 fl_X8_9_8 (fun _ => rfl) rfl (by decide) (tl_at (k := 41) (i := 39) rfl (by decide) rfl) (o := some _) rfl ?_
  refine pv_aload_0 (pc := 13) dX8_init_13 ?_
  refine pv_iconst (pc := 14) (v := (-1)) dX8_init_14 (by decide) ?_
  refine pv_putI (pc := 15) dX8_init_15 fl_X8_15_8 (fun q => by cases q) ⟨rfl, rfl, rfl⟩ (by decide) (tl_at (k := 41) (i := 39) rfl (by decide) rfl) ?_
  refine pv_aload_0 (pc := 18) dX8_init_18 ?_
  refine pv_iconst (pc := 19) (v := (-1)) dX8_init_19 (by decide) ?_
  refine pv_putI (pc := 20) dX8_init_20 fl_X8_19_8 (fun q => by cases q) ⟨rfl, rfl, rfl⟩ (by decide) (tl_at (k := 41) (i := 39) rfl (by decide) rfl) ?_
  refine pv_aload_0 (pc := 23) dX8_init_23 ?_
  refine pv_iconst (pc := 24) (v := (-1)) dX8_init_24 (by decide) ?_
  refine pv_putI (pc := 25) dX8_init_25 fl_X8_22_8 (fun q => by cases q) ⟨rfl, rfl, rfl⟩ (by decide) (tl_at (k := 41) (i := 39) rfl (by decide) rfl) ?_
  refine pv_vret (pc := 28) dX8_init_28 rfl ?_
  exact ⟨rfl, rfl, rfl, rfl, rfl⟩

set_option maxRecDepth 100000 in
set_option maxHeartbeats 4000000 in
theorem c_ini_X8_57 {G : pv_G} {d : Nat} {I : pv_I} {L : pv_L} {Rf : pv_R} (hd : 2 ≤ d) : pv_Mt G mX8_init d 1 160 [.ref 57] (pv_tl G 42) I L Rf (pv_is none (pv_tl G 43) (pv_u (pv_u (pv_u (pv_ur (I) 58 fun _ => 0) 57 1 (-1)) 57 3 (-1)) 57 6 (-1)) (pv_ur (L) 58 fun _ => 0) (pv_u (pv_ur (Rf) 58 fun _ => none) 57 0 (some 58))) := by
  refine pv_mt mgX8_init.2.2.2.2.2 [.ref 57] rfl (Nat.le_of_ble_eq_true rfl) ?_
  refine pv_aload_0 (pc := 0) dX8_init_0 ?_
  refine pv_objInit (pc := 1) dX8_init_1 ol_X8_3 oi_1 oi_2 (by omega) (by decide) ?_
  refine pv_aload_0 (pc := 4) dX8_init_4 ?_
  refine pv_sipush (pc := 5) (v := 160) dX8_init_5 (by decide) ?_
  refine pa_newL (pc := 8) (k := 42) (A := 58) (N := 160) (bc := 0) (bs := 0) dX8_init_8 ac_long (by decide) (by decide) (by decide) rfl rfl ?_
  refine pv_putR (pc := 10) (M := mX8_init) (idx := 9) dX8_init_10 fl_X8_9_8 (fun _ => rfl) rfl (by decide) (tl_at (k := 43) (i := 41) rfl (by decide) rfl) (o := some _) rfl ?_
  refine pv_aload_0 (pc := 13) dX8_init_13 ?_
  refine pv_iconst (pc := 14) (v := (-1)) dX8_init_14 (by decide) ?_
  refine pv_putI (pc := 15) dX8_init_15 fl_X8_15_8 (fun q => by cases q) ⟨rfl, rfl, rfl⟩ (by decide) (tl_at (k := 43) (i := 41) rfl (by decide) rfl) ?_
  refine pv_aload_0 (pc := 18) dX8_init_18 ?_
  refine pv_iconst (pc := 19) (v := (-1)) dX8_init_19 (by decide) ?_
  refine pv_putI (pc := 20) dX8_init_20 fl_X8_19_8 (fun q => by cases q) ⟨rfl, rfl, rfl⟩ (by decide) (tl_at (k := 43) (i := 41) rfl (by decide) rfl) ?_
  refine pv_aload_0 (pc := 23) dX8_init_23 ?_
  refine pv_iconst (pc := 24) (v := (-1)) dX8_init_24 (by decide) ?_
  refine pv_putI (pc := 25) dX8_init_25 fl_X8_22_8 (fun q => by cases q) ⟨rfl, rfl, rfl⟩ (by decide) (tl_at (k := 43) (i := 41) rfl (by decide) rfl) ?_
  refine pv_vret (pc := 28) dX8_init_28 rfl ?_
  exact ⟨rfl, rfl, rfl, rfl, rfl⟩

set_option maxRecDepth 100000 in
set_option maxHeartbeats 4000000 in
theorem c_ini_X8_59 {G : pv_G} {d : Nat} {I : pv_I} {L : pv_L} {Rf : pv_R} (hd : 2 ≤ d) : pv_Mt G mX8_init d 1 160 [.ref 59] (pv_tl G 44) I L Rf (pv_is none (pv_tl G 45) (pv_u (pv_u (pv_u (pv_ur (I) 60 fun _ => 0) 59 1 (-1)) 59 3 (-1)) 59 6 (-1)) (pv_ur (L) 60 fun _ => 0) (pv_u (pv_ur (Rf) 60 fun _ => none) 59 0 (some 60))) := by
  refine pv_mt mgX8_init.2.2.2.2.2 [.ref 59] rfl (Nat.le_of_ble_eq_true rfl) ?_
  refine pv_aload_0 (pc := 0) dX8_init_0 ?_
  refine pv_objInit (pc := 1) dX8_init_1 ol_X8_3 oi_1 oi_2 (by omega) (by decide) ?_
  refine pv_aload_0 (pc := 4) dX8_init_4 ?_
  refine pv_sipush (pc := 5) (v := 160) dX8_init_5 (by decide) ?_
  refine pa_newL (pc := 8) (k := 44) (A := 60) (N := 160) (bc := 0) (bs := 0) dX8_init_8 ac_long (by decide) (by decide) (by decide) rfl rfl ?_
  refine pv_putR (pc := 10) (M := mX8_init) (idx := 9) dX8_init_10 fl_X8_9_8 (fun _ => rfl) rfl (by decide) (tl_at (k := 45) (i := 43) rfl (by decide) rfl) (o := some _) rfl ?_
  refine pv_aload_0 (pc := 13) dX8_init_13 ?_
  refine pv_iconst (pc := 14) (v := (-1)) dX8_init_14 (by decide) ?_
  refine pv_putI (pc := 15) dX8_init_15 fl_X8_15_8 (fun q => by cases q) ⟨rfl, rfl, rfl⟩ (by decide) (tl_at (k := 45) (i := 43) rfl (by decide) rfl) ?_
  refine pv_aload_0 (pc := 18) dX8_init_18 ?_
  refine pv_iconst (pc := 19) (v := (-1)) dX8_init_19 (by decide) ?_
  refine pv_putI (pc := 20) dX8_init_20 fl_X8_19_8 (fun q => by cases q) ⟨rfl, rfl, rfl⟩ (by decide) (tl_at (k := 45) (i := 43) rfl (by decide) rfl) ?_
  refine pv_aload_0 (pc := 23) dX8_init_23 ?_
  refine pv_iconst (pc := 24) (v := (-1)) dX8_init_24 (by decide) ?_
  refine pv_putI (pc := 25) dX8_init_25 fl_X8_22_8 (fun q => by cases q) ⟨rfl, rfl, rfl⟩ (by decide) (tl_at (k := 45) (i := 43) rfl (by decide) rfl) ?_
  refine pv_vret (pc := 28) dX8_init_28 rfl ?_
  exact ⟨rfl, rfl, rfl, rfl, rfl⟩

