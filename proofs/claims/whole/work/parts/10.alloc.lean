/-! new cells, rows of references, statics, library members -/
def pv_tn (t : pv_T) (x : pv_Sh) : pv_T := (fun y => if y = t.2 then some x else t.1 y, t.2 + 1)
section PVN
variable {G : pv_G} {t : pv_T} {I : pv_I} {L : pv_L} {Rf : pv_R} {s : State} {H H1 : Heap}
theorem pv_ce.tt {t1 : pv_T} {tys : List (ClassId × FieldType)} {a : Nat} {e : va_E} (h : pv_ce G t I L Rf tys a e) (ht : t1.1 a = t.1 a) : pv_ce G t1 I L Rf tys a e := by
  unfold pv_ce at h ⊢
  rw [ht]; exact h
theorem pv_Rep.n16 (P : pv_Rep G t I L Rf s H) : 16 ≤ t.2 := by
  obtain ⟨-, -, -, ws, tys, w⟩ := P
  have := w.2.2.1
  omega
theorem pv_Rep.ad (P : pv_Rep G t I L Rf s H) : H.size = pv_ad G t.2 := by
  rw [pv_ad_in P.n16]
  have := P.1
  have := P.n16
  omega
theorem pv_Rep.push (P : pv_Rep G t I L Rf s H) {x : pv_Sh} {e : va_E} {tys1 : List (ClassId × FieldType)} (hz : H1.size = H.size + 1) (ho : ∀ q : Nat, q < H.size → H1[q]? = H[q]?) (hK : ∀ (k : Nat) (q : ClassId × FieldType), tys1[k]? = some q → ArrOfT s q.1 q.2 ∧ va_RA s q.1 q.2) (hat : va_at G.1 vwCl (pv_ad G t.2, e) H1)
    (hce : ∀ tys : List (ClassId × FieldType), pv_ce G (pv_tn t x) (pv_ur I t.2 fun _ => 0) (pv_ur L t.2 fun _ => 0) (pv_ur Rf t.2 fun _ => none) (tys ++ tys1) t.2 e) :
    pv_Rep G (pv_tn t x) (pv_ur I t.2 fun _ => 0) (pv_ur L t.2 fun _ => 0) (pv_ur Rf t.2 fun _ => none) s H1 := by
  have h16 := P.n16
  obtain ⟨p1, p2, p3, ws, tys, hK0, hP, hl, hw⟩ := P
  refine ⟨by show H1.size + 16 = G.2.1 + (t.2 + 1); omega, fun a ha => ?_, fun a ha => ⟨?_, fun q hq j hj => ?_⟩, ws ++ [(pv_ad G t.2, e)], tys ++ tys1, ⟨hK0.1, fun k q hk => ?_⟩, va_P.app (hP.kept fun k q hk => ho q.1 (hP k q hk).lt) (fun k q hk => ?_), ?_, fun k q hk => ?_⟩
  · have ha : t.2 + 1 ≤ a := ha
    show (if a = t.2 then some x else t.1 a) = none
    rw [if_neg (by omega)]; exact p2 a (by omega)
  · show (if a = t.2 then some x else t.1 a) = _
    rw [if_neg (by omega)]; exact (p3 a ha).1
  · rw [pv_ur_ne _ _ (by omega)]; exact (p3 a ha).2 q hq j hj
  · rcases List.mem_append.mp (List.mem_of_getElem? hk) with h | h
    · obtain ⟨i, hi⟩ := List.getElem?_of_mem h
      exact hK0.2 i q hi
    · obtain ⟨i, hi⟩ := List.getElem?_of_mem h
      exact hK i q hi
  · have hk0 : k < 1 := (List.getElem?_eq_some_iff.mp hk).1
    rw [show k = 0 by omega] at hk
    cases hk; exact hat
  · show (ws ++ [(pv_ad G t.2, e)]).length + 16 = t.2 + 1
    rw [List.length_append]; simp; omega
  · by_cases hlt : k < ws.length
    · rw [List.getElem?_append_left hlt] at hk
      obtain ⟨g1, g2⟩ := hw k q hk
      refine ⟨g1, ?_⟩
      refine (g2.congr (tys2 := tys ++ tys1) (pv_ur_ne _ _ (by omega)) (pv_ur_ne _ _ (by omega)) (pv_ur_ne _ _ (by omega)) (fun i q h => ?_)).tt ?_
      · rw [List.getElem?_append_left (List.getElem?_eq_some_iff.mp h).1]; exact h
      · show (if k + 16 = t.2 then some x else t.1 (k + 16)) = _
        rw [if_neg (by omega)]
    · rw [List.getElem?_append_right (by omega)] at hk
      have hk0 : k - ws.length < 1 := (List.getElem?_eq_some_iff.mp hk).1
      rw [show k - ws.length = 0 by omega] at hk
      cases hk
      refine ⟨?_, ?_⟩
      · show pv_ad G t.2 = _
        rw [pv_ad_in h16]; omega
      · rw [show k + 16 = t.2 by omega]; exact hce tys
end PVN
def pv_okty (ty : FieldType) : Bool := match ty with
  | .float => false
  | .double => false
  | _ => true
section PVA
variable {G : pv_G} {M : pv_Mth} {d mc ms bc bs pc : Nat} {Q : pv_Q} {ls st : List Value} {t : pv_T} {I : pv_I} {L : pv_L} {Rf : pv_R}
theorem pv_new {idx ci : Nat} {r : vw_C} (hd : decode M.2.1 pc = .ok (.new idx, 3)) (hc : vwCl[ci]? = some r) (hl0 : Cond.classLink M.1.cls idx r.1 ∈ lw_g) (hi : Cond.instantiable r.1 r.2.2 ∈ lw_g) (hn : Cond.initialized r.1 ∈ lw_g) (hok : ∀ k, k < r.2.2 → pv_okty (pv_ty ci k) = true)
    (k : pv_V G M d mc ms Q bc bs (pc + 3) ls (.ref t.2 :: st) (pv_tn t (.inr ci)) (pv_ur I t.2 fun _ => 0) (pv_ur L t.2 fun _ => 0) (pv_ur Rf t.2 fun _ => none)) : pv_V G M d mc ms Q (bc + 1) (bs + r.2.2) pc ls st t I L Rf := by
  intro R p l e s m args below meth c Z H locs cells slots lsA C F P S hl h1 h2
  have hts := C.2.2.2.2.2.1
  have hb := C.2.2.2.2.2.2.2.2.2
  obtain ⟨hin, hty, -⟩ := pv_clsok ci r hc
  obtain ⟨-, -, -, ws, tys, w⟩ := id P
  have hKn := w.1.1 ci _ hc
  refine W.newcK C.1 C.2.1 C.2.2.2.2.1 (hts _ hl0) (hts _ hi) (hts _ hn) rfl hd (by omega) (by omega) hKn.2.1 P.ad fun H1 kC hkC e1 z1 o1 => ?_
  rw [← P.ad] at z1 o1
  refine k R p l e s m args below meth c Z H1 locs (cells + 1) (slots + r.2.2) lsA C F (P.push (e := .inr (ci, pv_fl G ci r.2.2 (pv_ur I t.2 fun _ => 0) (pv_ur L t.2 fun _ => 0) (pv_ur Rf t.2 fun _ => none) t.2)) (tys1 := []) z1 o1 (fun k q h => by simp at h) ⟨r, hc, (u_born _ hts hin hKn hkC e1 hty).to (fun j hj => ?_)⟩ (fun tys => ?_)) ⟨Nat.le_trans S.1 (by omega), fun x g1 g2 => (o1 x (Nat.lt_of_lt_of_le g1 S.1)).trans (S.2.1 x g1 g2), S.2.2⟩ hl (by omega) (by omega)
  · have hg := pv_fl_get G ci r.2.2 (pv_ur I t.2 fun _ => 0) (pv_ur L t.2 fun _ => 0) (pv_ur Rf t.2 fun _ => none) t.2 hj
    show _ = (pv_fl G ci r.2.2 (pv_ur I t.2 fun _ => 0) (pv_ur L t.2 fun _ => 0) (pv_ur Rf t.2 fun _ => none) t.2).getD j .null
    rw [List.getD_eq_getElem?_getD, hg]
    have ho := hok j hj
    cases hq : pv_ty ci j <;> rw [hq] at ho <;> first | (simp [pv_fv, pv_ur, va_rf, defaultValue]; done) | cases ho
  · simp only [pv_ce, pv_tn, if_pos]
    exact ⟨r, hc, rfl⟩
theorem pv_newI {n : Int32} {N : Nat} (hd : decode M.2.1 pc = .ok (.newarray .int, 2)) (hw : Cond.arrayClass .int ∈ lw_g) (hn : ¬ n < 0) (hN : n.toNatClampNeg = N) (hsm : N ≤ 100000)
    (k : pv_V G M d mc ms Q bc bs (pc + 2) ls (.ref t.2 :: st) (pv_tn t (.inl (.int, N))) (pv_ur I t.2 fun _ => 0) (pv_ur L t.2 fun _ => 0) (pv_ur Rf t.2 fun _ => none)) : pv_V G M d mc ms Q (bc + 1) (bs + N) pc ls (.int n :: st) t I L Rf := by
  intro R p l e s m args below meth c Z H locs cells slots lsA C F P S hl h1 h2
  show W p l e R s m args below meth c H locs cells slots Z (F0 m pc lsA (.int n :: st.map (pv_v G)))
  have hts := C.2.2.2.2.2.1
  have hb := C.2.2.2.2.2.2.2.2.2
  refine va_newaK (atype := .int) C.1 C.2.1 (hts _ hw) rfl hd rfl hn hN (by show N * 4 ≤ _; omega) (by omega) (by omega) P.ad fun H1 cA e1 z1 o1 hA1 hA2 => ?_
  rw [← P.ad] at z1 o1
  refine k R p l e s m args below meth c Z H1 locs (cells + 1) (slots + N) lsA C F (P.push (e := .inl (cA, N, .inl (fun _ => 0))) (tys1 := [(cA, .int)]) z1 o1 (fun k q h => ?_) ?_ (fun tys => ?_)) ⟨Nat.le_trans S.1 (by omega), fun x g1 g2 => (o1 x (Nat.lt_of_lt_of_le g1 S.1)).trans (S.2.1 x g1 g2), S.2.2⟩ hl (by omega) (by omega)
  · have hk0 : k < 1 := (List.getElem?_eq_some_iff.mp h).1
    rw [show k = 0 by omega] at h
    cases h; exact ⟨hA1, hA2⟩
  · exact e1
  · simp only [pv_ce, pv_tn, if_pos]
    refine ⟨tys.length, cA, by simp, ?_⟩
    simp [pv_ar, pv_ur_eq]
theorem pv_newL {n : Int32} {N : Nat} (hd : decode M.2.1 pc = .ok (.newarray .long, 2)) (hw : Cond.arrayClass .long ∈ lw_g) (hn : ¬ n < 0) (hN : n.toNatClampNeg = N) (hsm : N ≤ 100000)
    (k : pv_V G M d mc ms Q bc bs (pc + 2) ls (.ref t.2 :: st) (pv_tn t (.inl (.long, N))) (pv_ur I t.2 fun _ => 0) (pv_ur L t.2 fun _ => 0) (pv_ur Rf t.2 fun _ => none)) : pv_V G M d mc ms Q (bc + 1) (bs + N) pc ls (.int n :: st) t I L Rf := by
  intro R p l e s m args below meth c Z H locs cells slots lsA C F P S hl h1 h2
  show W p l e R s m args below meth c H locs cells slots Z (F0 m pc lsA (.int n :: st.map (pv_v G)))
  have hts := C.2.2.2.2.2.1
  have hb := C.2.2.2.2.2.2.2.2.2
  refine va_newaK (atype := .long) C.1 C.2.1 (hts _ hw) rfl hd rfl hn hN (by show N * 8 ≤ _; omega) (by omega) (by omega) P.ad fun H1 cA e1 z1 o1 hA1 hA2 => ?_
  rw [← P.ad] at z1 o1
  refine k R p l e s m args below meth c Z H1 locs (cells + 1) (slots + N) lsA C F (P.push (e := .inl (cA, N, .inr (.inl (fun _ => 0)))) (tys1 := [(cA, .long)]) z1 o1 (fun k q h => ?_) ?_ (fun tys => ?_)) ⟨Nat.le_trans S.1 (by omega), fun x g1 g2 => (o1 x (Nat.lt_of_lt_of_le g1 S.1)).trans (S.2.1 x g1 g2), S.2.2⟩ hl (by omega) (by omega)
  · have hk0 : k < 1 := (List.getElem?_eq_some_iff.mp h).1
    rw [show k = 0 by omega] at h
    cases h; exact ⟨hA1, hA2⟩
  · exact e1
  · simp only [pv_ce, pv_tn, if_pos]
    refine ⟨tys.length, cA, by simp, ?_⟩
    simp [pv_ar, pv_ur_eq]
theorem pv_newQ {C0 : String} {idx : Nat} {n : Int32} {N : Nat} (hd : decode M.2.1 pc = .ok (.anewarray idx, 3)) (hC : C0 = "TwoRopes$Shelf" ∨ C0 = "TwoRopes$Dance") (hl0 : Cond.classLink M.1.cls idx C0 ∈ lw_g) (hn : ¬ n < 0) (hN : n.toNatClampNeg = N) (hsm : N ≤ 100000)
    (k : pv_V G M d mc ms Q bc bs (pc + 3) ls (.ref t.2 :: st) (pv_tn t (.inl (.object C0, N))) (pv_ur I t.2 fun _ => 0) (pv_ur L t.2 fun _ => 0) (pv_ur Rf t.2 fun _ => none)) : pv_V G M d mc ms Q (bc + 1) (bs + N) pc ls (.int n :: st) t I L Rf := by
  intro R p l e s m args below meth c Z H locs cells slots lsA C F P S hl h1 h2
  show W p l e R s m args below meth c H locs cells slots Z (F0 m pc lsA (.int n :: st.map (pv_v G)))
  have hts := C.2.2.2.2.2.1
  have hb := C.2.2.2.2.2.2.2.2.2
  have hE := C.2.2.2.2.2.2.2.2.1
  have hover : va_AO C0 s := by
    rcases hC with rfl | rfl
    · exact hE.2.2.2.2.2.2.2.2.1
    · exact hE.2.2.2.2.2.2.2.2.2
  subst hN
  refine W.anew C.1 C.2.1 C.2.2.2.2.1 (hts _ hl0) (va_AO.use hover) rfl hd rfl hn (by omega) (by omega) (by omega) fun cA kA comp f1 f2 f3 f4 => ?_
  have had := P.ad
  generalize hH1 : H.push ({ cls := cA, slots := Array.replicate n.toNatClampNeg .null, vm := .none } : Cell) = H1
  have z1 : H1.size = H.size + 1 := by rw [← hH1, Array.size_push]
  have e1 : H1[H.size]? = some (arrV cA n.toNatClampNeg (fun _ => .null)) := by rw [← hH1, Array.getElem?_push_size, ← arrV_new]
  have o1 : ∀ q : Nat, q < H.size → H1[q]? = H[q]? := fun q hq => by rw [← hH1, Array.getElem?_push, if_neg (Nat.ne_of_lt hq)]
  rw [had] at e1
  show W p l e R s m args below meth c H1 locs (cells + 1) (slots + n.toNatClampNeg) Z (F0 m (pc + 3) lsA (.ref H.size :: st.map (pv_v G)))
  rw [had]
  refine k R p l e s m args below meth c Z H1 locs (cells + 1) (slots + n.toNatClampNeg) lsA C F (P.push (e := .inl (cA, n.toNatClampNeg, .inr (.inr (.inr (.inr (fun _ => none)))))) (tys1 := [(cA, .object C0)]) z1 o1 (fun k q h => ?_) ?_ (fun tys => ?_)) ⟨Nat.le_trans S.1 (by omega), fun x g1 g2 => (o1 x (Nat.lt_of_lt_of_le g1 S.1)).trans (S.2.1 x g1 g2), S.2.2⟩ hl (by omega) (by omega)
  · have hk0 : k < 1 := (List.getElem?_eq_some_iff.mp h).1
    rw [show k = 0 by omega] at h
    cases h; exact ⟨fun N z => ⟨(fun k h => by cases h), kA, f2, comp, f3⟩, kA, comp, f2, f3, f4, f1⟩
  · exact e1
  · simp only [pv_ce, pv_tn, if_pos]
    refine ⟨tys.length, cA, by simp, ?_⟩
    simp [pv_ar, pv_ur_eq]
/-- a row of references is written -/
theorem pv_aastore {a n x ci : Nat} {i : Int32} {E : String} {r : vw_C} (hd : decode M.2.1 pc = .ok (.aastore, 1)) (h16 : 16 ≤ a) (hs : t.1 a = some (.inl (.object E, n))) (hx16 : 16 ≤ x) (hsx : t.1 x = some (.inr ci)) (hc : vwCl[ci]? = some r) (hca : r.1 = E ∨ Cond.castable r.1 E ∈ lw_n) (hi : vp_in i n)
    (k : pv_V G M d mc ms Q bc bs (pc + 1) ls st t I L (pv_u Rf a i.toNatClampNeg (some x))) : pv_V G M d mc ms Q bc bs pc ls (.ref x :: .int i :: .ref a :: st) t I L Rf := by
  intro R p l e s m args below meth c Z H locs cells slots lsA C F P S hl h1 h2
  show W p l e R s m args below meth c H locs cells slots Z (F0 m pc lsA (.ref (pv_ad G x) :: .int i :: .ref (pv_ad G a) :: st.map (pv_v G)))
  have hts := C.2.2.2.2.2.1
  obtain ⟨-, -, -, ws, tys, w⟩ := id P
  obtain ⟨t0, cA, ht, hw⟩ := w.arr h16 (P.lt hs) hs
  have hw : ws[a - 16]? = some (pv_ad G a, .inl (cA, n, .inr (.inr (.inr (.inr (fun j => (Rf a j).map (pv_ad G))))))) := hw
  obtain ⟨cellV, g1, g3, g2⟩ := pv_recv P hx16 hsx hc
  obtain ⟨kA, comp, k1, k2, k3, -⟩ := (w.1.2 t0 _ ht).2
  obtain ⟨kE, hkE, -⟩ := Vm.findClass_spec k3
  obtain ⟨kC, hkC, -⟩ := Vm.findClass_spec g2
  have hasg : s.vm.assignable cellV.cls comp = true := by
    rcases hca with rfl | hca
    · cases k3.symm.trans g2
      exact va_asg _ _
    · obtain ⟨c0, t1, f1, f2, f3⟩ := Cond.castable_spec (pv_nest (args := args) C.2.2.2.2.2.2.2.2.1.2.2.2.2.2.2.2.1 hca)
      cases g2.symm.trans f1
      cases k3.symm.trans f2
      exact f3
  have hlt : i.toNatClampNeg < n := Nat.not_le.mp fun q => hi (Or.inr q)
  have h0 : ¬ i < 0 := fun q => hi (Or.inl q)
  have hD := w.D
  refine W.aast C.1 C.2.1 (w.2.1 _ _ hw) (fun q h => by cases h) (fun h => by cases h) k1 k2 rfl hkE ⟨h0, by show _ < (arrV _ _ _).slots.size; rw [arrV_size]; exact hlt⟩ g1 (fun q h => by rw [h] at g3; cases g3) hkC hasg rfl rfl hd fun H1 e1 z oq => ?_
  refine k R p l e s m args below meth c Z H1 _ cells slots lsA C F (P.set w h16 z (w.2.1.set hD hw (e := .inl (cA, n, .inr (.inr (.inr (.inr (fun j => (pv_u Rf a i.toNatClampNeg (some x) a j).map (pv_ad G))))))) ?_ oq) ?_ (fun y hy => ⟨rfl, rfl, pv_u_ne Rf _ hy⟩)) (S.put z oq (hD.2 _ _ hw)) hl h1 h2
  · show H1[pv_ad G a]? = some (vp_cell _ _)
    rw [e1, vp_cell_q, vp_cell_q, arrV_store]
    congr 2
    funext q
    by_cases hq : q = i.toNatClampNeg
    · subst hq; simp [updV, pv_u, va_rf]
    · simp [updV, pv_u, hq]
  · simp only [pv_ce, hs]
    exact ⟨t0, cA, ht, rfl⟩
/-- Object's constructor -/
theorem pv_objInit {a idx : Nat} (hd : decode M.2.1 pc = .ok (.invokespecial idx, 3)) (hl0 : Cond.methodLink M.1.cls idx Lib.objectInit ∈ lw_g) (hi : Cond.instanceMethod Lib.objectInit ∈ lw_g) (hc : Cond.code Lib.objectInit ⟨#[0xb1]⟩ 1 none ∈ lw_g) (hdd : 1 ≤ d) (hW : (st.map fun v => v.category).sum ≤ 8)
    (k : pv_V G M d mc ms Q bc bs (pc + 3) ls st t I L Rf) : pv_V G M d mc ms Q bc bs pc ls (.ref a :: st) t I L Rf := by
  intro R p l e s m args below meth c Z H locs cells slots lsA C F P S hl h1 h2
  show W p l e R s m args below meth c H locs cells slots Z (F0 m pc lsA (.ref (pv_ad G a) :: st.map (pv_v G)))
  have hts := C.2.2.2.2.2.1
  have hb := C.2.2.2.2.2.2.2.2.2
  exact W.objInit C.1 C.2.1 C.2.2.2.2.1 (hts _ hl0) (hts _ hi) (hts _ hc) rfl (hl.1.trans C.2.2.2.1.symm) rfl hd (by omega) (by show 2 * 0 + _ + 12 ≤ _; rw [pv_catsum]; omega) (k R p l e s m args below meth c Z H locs cells slots lsA C F P S hl h1 h2)
/-- Math.abs of a long, Math.min of two ints -/
theorem pv_labs {x : Int64} {idx : Nat} (hd : decode M.2.1 pc = .ok (.invokestatic idx, 3)) (hl0 : Cond.methodLink M.1.cls idx Lib.MathLoose.abs_long.x ∈ lw_g) (hs : Cond.static Lib.MathLoose.abs_long.x ∈ lw_g) (hi : Cond.initialized "java/lang/Math" ∈ lw_g) (hc : Cond.code Lib.MathLoose.abs_long.x Lib.MathLoose.abs_long.code 2 (some .long) ∈ lw_g) (hdd : 1 ≤ d) (hW : (st.map fun v => v.category).sum ≤ 8)
    (k : pv_V G M d mc ms Q bc bs (pc + 3) ls (.long (if 0 < x then x else -x) :: st) t I L Rf) : pv_V G M d mc ms Q bc bs pc ls (.long x :: st) t I L Rf := by
  intro R p l e s m args below meth c Z H locs cells slots lsA C F P S hl h1 h2
  show W p l e R s m args below meth c H locs cells slots Z (F0 m pc lsA (.long x :: st.map (pv_v G)))
  have hts := C.2.2.2.2.2.1
  have hb := C.2.2.2.2.2.2.2.2.2
  exact va_mabs_long C.1 C.2.1 (C.2.2.2.1.trans hl.1.symm) C.2.2.2.2.1 (hts _ hl0) (hts _ hs) (hts _ hi) (hts _ hc) (by omega) (by rw [pv_catsum]; omega) (by omega) (by omega) hd (k R p l e s m args below meth c Z H locs cells slots lsA C F P S hl h1 h2)
theorem pv_imin {x y : Int32} {idx : Nat} (hd : decode M.2.1 pc = .ok (.invokestatic idx, 3)) (hl0 : Cond.methodLink M.1.cls idx Lib.Math.min.name ∈ lw_g) (hs : Cond.static Lib.Math.min.name ∈ lw_g) (hi : Cond.initialized "java/lang/Math" ∈ lw_g) (hc : Cond.code Lib.Math.min.name Lib.Math.min.code 2 (some .int) ∈ lw_g) (hdd : 1 ≤ d) (hW : (st.map fun v => v.category).sum ≤ 8)
    (k : pv_V G M d mc ms Q bc bs (pc + 3) ls (.int (if y < x then y else x) :: st) t I L Rf) : pv_V G M d mc ms Q bc bs pc ls (.int y :: .int x :: st) t I L Rf := by
  intro R p l e s m args below meth c Z H locs cells slots lsA C F P S hl h1 h2
  show W p l e R s m args below meth c H locs cells slots Z (F0 m pc lsA (.int y :: .int x :: st.map (pv_v G)))
  have hts := C.2.2.2.2.2.1
  have hb := C.2.2.2.2.2.2.2.2.2
  exact va_mmin C.1 C.2.1 (C.2.2.2.1.trans hl.1.symm) C.2.2.2.2.1 (hts _ hl0) (hts _ hs) (hts _ hi) (hts _ hc) (by omega) (by rw [pv_catsum]; omega) (by omega) (by omega) hd (k R p l e s m args below meth c Z H locs cells slots lsA C F P S hl h1 h2)
/-- statics -/
theorem pv_gsAbove {idx : Nat} (hd : decode M.2.1 pc = .ok (.getstatic idx, 3)) (hw : Cond.fieldLink M.1.cls idx "TwoRopes" "ABOVE" "[I" ∈ lw_g) (k : pv_V G M d mc ms Q bc bs (pc + 3) ls (.ref 1 :: st) t I L Rf) : pv_V G M d mc ms Q bc bs pc ls st t I L Rf := by
  intro R p l e s m args below meth c Z H locs cells slots lsA C F P S hl h1 h2
  have hts := C.2.2.2.2.2.1
  exact va_gets C.1 C.2.1 C.2.2.2.2.2.2.2.2.1.2.2.1 S C.2.2.2.2.1 (hts _ hw) (fun _ q => q) hd (k R p l e s m args below meth c Z H locs cells slots lsA C F P S hl h1 h2)
theorem pv_gsCompact {idx : Nat} (hd : decode M.2.1 pc = .ok (.getstatic idx, 3)) (hw : Cond.fieldLink M.1.cls idx "java/lang/String" "COMPACT_STRINGS" "Z" ∈ lw_g) (k : pv_V G M d mc ms Q bc bs (pc + 3) ls (.int 1 :: st) t I L Rf) : pv_V G M d mc ms Q bc bs pc ls st t I L Rf := by
  intro R p l e s m args below meth c Z H locs cells slots lsA C F P S hl h1 h2
  have hts := C.2.2.2.2.2.1
  exact va_gets C.1 C.2.1 C.2.2.2.2.2.2.2.2.1.2.2.2.2.2.1 S C.2.2.2.2.1 (hts _ hw) (fun _ q => q) hd (k R p l e s m args below meth c Z H locs cells slots lsA C F P S hl h1 h2)
theorem pv_gsFormat {idx : Nat} (hd : decode M.2.1 pc = .ok (.getstatic idx, 3)) (hw : Cond.fieldLink M.1.cls idx "jdk/internal/util/Preconditions" "SIOOBE_FORMATTER" "Ljava/util/function/BiFunction;" ∈ lw_g) (k : pv_V G M d mc ms Q bc bs (pc + 3) ls (G.2.2.2.2.2 :: st) t I L Rf) : pv_V G M d mc ms Q bc bs pc ls st t I L Rf := by
  intro R p l e s m args below meth c Z H locs cells slots lsA C F P S hl h1 h2
  have hts := C.2.2.2.2.2.1
  exact va_gets C.1 C.2.1 C.2.2.2.2.2.2.2.2.1.2.2.2.2.2.2.1 S C.2.2.2.2.1 (hts _ hw) (fun _ q => q) hd (k R p l e s m args below meth c Z H locs cells slots lsA C F P S hl h1 h2)
/-- a word of letters is named; its fields -/
theorem pv_ldcS {idx i : Nat} (hd : decode M.2.1 pc = .ok (.ldc idx, 2)) (hM : M.1.cls = "TwoRopes") (hi : idx = 442 ∧ i = 2 ∨ idx = 454 ∧ i = 3 ∨ idx = 459 ∧ i = 4) (k : pv_V G M d mc ms Q bc bs (pc + 2) ls (.ref i :: st) t I L Rf) : pv_V G M d mc ms Q bc bs pc ls st t I L Rf := by
  intro R p l e s m args below meth c Z H locs cells slots lsA C F P S hl h1 h2
  have hE := C.2.2.2.2.2.2.2.2.1.2.2.2.2.1
  have ho := C.2.2.2.2.1
  rw [hM] at ho
  rcases hi with ⟨rfl, rfl⟩ | ⟨rfl, rfl⟩ | ⟨rfl, rfl⟩
  · exact va_ldcS C.1 C.2.1 ho hE.1 hd (k R p l e s m args below meth c Z H locs cells slots lsA C F P S hl h1 h2)
  · exact va_ldcS C.1 C.2.1 ho hE.2.1 hd (k R p l e s m args below meth c Z H locs cells slots lsA C F P S hl h1 h2)
  · exact va_ldcS C.1 C.2.1 ho hE.2.2 hd (k R p l e s m args below meth c Z H locs cells slots lsA C F P S hl h1 h2)
theorem pv_strV {idx i : Nat} (hd : decode M.2.1 pc = .ok (.getfield idx, 3)) (hw : Cond.fieldLink M.1.cls idx "java/lang/String" "value" "[B" ∈ lw_g) (hi : i < 3) (k : pv_V G M d mc ms Q bc bs (pc + 3) ls (.ref (5 + i) :: st) t I L Rf) : pv_V G M d mc ms Q bc bs pc ls (.ref (2 + i) :: st) t I L Rf := by
  intro R p l e s m args below meth c Z H locs cells slots lsA C F P S hl h1 h2
  have hts := C.2.2.2.2.2.1
  have hE := (C.2.2.2.2.2.2.2.2.1.2.2.2.1.1 i hi).2.2.1
  have kk := k R p l e s m args below meth c Z H locs cells slots lsA C F P S hl h1 h2
  show W p l e R s m args below meth c H locs cells slots Z (F0 m pc lsA (.ref (pv_ad G (2 + i)) :: st.map (pv_v G)))
  rw [List.map_cons, show pv_v G (.ref (5 + i)) = .ref (G.2.2.1 (5 + i)) by rw [← pv_ad_out (by omega)]; rfl] at kk
  rw [pv_ad_out (by omega)]
  exact vk_getf C.1 C.2.1 hE S C.2.2.2.2.1 (hts _ hw) (fun _ q => q) hd kk
theorem pv_strC {idx i : Nat} (hd : decode M.2.1 pc = .ok (.getfield idx, 3)) (hw : Cond.fieldLink M.1.cls idx "java/lang/String" "coder" "B" ∈ lw_g) (hi : i < 3) (k : pv_V G M d mc ms Q bc bs (pc + 3) ls (.int 0 :: st) t I L Rf) : pv_V G M d mc ms Q bc bs pc ls (.ref (2 + i) :: st) t I L Rf := by
  intro R p l e s m args below meth c Z H locs cells slots lsA C F P S hl h1 h2
  have hts := C.2.2.2.2.2.1
  have hE := (C.2.2.2.2.2.2.2.2.1.2.2.2.1.1 i hi).2.1
  have kk := k R p l e s m args below meth c Z H locs cells slots lsA C F P S hl h1 h2
  show W p l e R s m args below meth c H locs cells slots Z (F0 m pc lsA (.ref (pv_ad G (2 + i)) :: st.map (pv_v G)))
  rw [pv_ad_out (by omega)]
  exact vk_getf C.1 C.2.1 hE S C.2.2.2.2.1 (hts _ hw) (fun _ q => q) hd kk
end PVA
