/-! System.arraycopy of ints and of longs -/
theorem pv_nn (z : Int32) (hz : ¬ z < 0) : z.toInt = (z.toNatClampNeg : Int) := by
  have hz0 : (0 : Int) ≤ z.toInt := by
    have := Int32.not_lt.mp hz
    simpa using Int32.le_iff_toInt_le.mp this
  show z.toInt = ((z.toInt.toNat : Nat) : Int)
  omega
section PVCP
variable {G : pv_G} {M : pv_Mth} {d mc ms bc bs pc : Nat} {Q : pv_Q} {ls st : List Value} {t : pv_T} {I : pv_I} {L : pv_L} {Rf : pv_R}
theorem pv_copyl {a0 a n0 n1 idx : Nat} {sp dp n : Int32} (hd : decode M.2.1 pc = .ok (.invokestatic idx, 3)) (hl0 : Cond.methodLink M.1.cls idx arraycopyName ∈ lw_g) (hw1 : Cond.native arraycopyName ∈ lw_g) (hw2 : Cond.static arraycopyName ∈ lw_g) (hw3 : Cond.initialized "java/lang/System" ∈ lw_g) (h16a : 16 ≤ a0) (h16 : 16 ≤ a) (hs0 : t.1 a0 = some (.inl (.long, n0))) (hs : t.1 a = some (.inl (.long, n1)))
    (g1 : ¬ sp < 0) (g2 : ¬ dp < 0) (g3 : ¬ n < 0) (g4 : sp.toNatClampNeg + n.toNatClampNeg ≤ n0) (g5 : dp.toNatClampNeg + n.toNatClampNeg ≤ n1) (hdd : 1 ≤ d) (hW : (st.map fun v => v.category).sum ≤ 8)
    (k : pv_V G M d mc ms Q bc bs (pc + 3) ls st t I (pv_ur L a (va_cpy (L a0) (L a) sp.toNatClampNeg dp.toNatClampNeg n.toNatClampNeg)) Rf) : pv_V G M d mc ms Q bc bs pc ls (.int n :: .int dp :: .ref a :: .int sp :: .ref a0 :: st) t I L Rf := by
  intro R p l e s m args below meth c Z H locs cells slots lsA C F P S hl h1 h2
  show W p l e R s m args below meth c H locs cells slots Z (F0 m pc lsA (.int n :: .int dp :: .ref (pv_ad G a) :: .int sp :: .ref (pv_ad G a0) :: st.map (pv_v G)))
  have hts := C.2.2.2.2.2.1
  have hb := C.2.2.2.2.2.2.2.2.2
  obtain ⟨-, -, -, ws, tys, w⟩ := id P
  obtain ⟨t0, c0, ht0, hw0⟩ := w.arr h16a (P.lt hs0) hs0
  obtain ⟨t1, c1, ht1, hw⟩ := w.arr h16 (P.lt hs) hs
  have hw0 : ws[a0 - 16]? = some (pv_ad G a0, .inl (c0, n0, .inr (.inl (L a0)))) := hw0
  have hw : ws[a - 16]? = some (pv_ad G a, .inl (c1, n1, .inr (.inl (L a)))) := hw
  have hc0 : H[pv_ad G a0]? = some (vp_cell c0 (n0, .inr (.inl (L a0)))) := w.2.1 _ _ hw0
  have hc1 : H[pv_ad G a]? = some (vp_cell c1 (n1, .inr (.inl (L a)))) := w.2.1 _ _ hw
  have hD := w.D
  intro T hT X
  obtain ⟨-, k0, hk0, cm0, hkk0⟩ := (w.1.2 t0 _ ht0).1 n0 (fun j => .long (L a0 j))
  obtain ⟨-, k1, hk1, cm1, hkk1⟩ := (w.1.2 t1 _ ht1).1 n1 (fun j => .long (L a j))
  obtain ⟨vm', X', step⟩ := X.arraycopy C.1 C.2.2.2.2.1 (hts _ hl0) (hts _ hw1) (hts _ hw2) (hts _ hw3) (src := pv_ad G a0) (dst := pv_ad G a) (cs := vp_cell c0 (n0, .inr (.inl (L a0)))) (cd := vp_cell c1 (n1, .inr (.inl (L a)))) (srcPos := sp) (destPos := dp) (n := n) (by rw [hT]; exact hc0) (by rw [hT]; exact hc1)
    (fun _ h => by cases h) (fun _ h => by cases h) (fun h => by cases h) (fun h => by cases h) hk0 hk1 hkk0 hkk1 (by simp [refKind]) g1 g2 g3
    (by rw [pv_nn sp g1, pv_nn n g3]; show ¬ _ > ((arrV c0 n0 (fun j => .long (L a0 j))).slots.size : Int); rw [arrV_size]; omega)
    (by rw [pv_nn dp g2, pv_nn n g3]; show ¬ _ > ((arrV c1 n1 (fun j => .long (L a j))).slots.size : Int); rw [arrV_size]; omega)
    (fun vm₁ _ i hi => by
      have e : (vp_cell c0 (n0, .inr (.inl (L a0)))).slots.getD (sp.toNatClampNeg + i) .null = .long (L a0 (sp.toNatClampNeg + i)) := by
        show (arrV c0 n0 (fun j => .long (L a0 j))).slots.getD _ _ = _
        rw [Array.getD_eq_getD_getElem?, arrV_read _ _ (by omega)]
        rfl
      exact ⟨by rw [e]; rfl, by rw [e]; exact trivial⟩)
    (g := F0 m pc lsA (.int n :: .int dp :: .ref (pv_ad G a) :: .int sp :: .ref (pv_ad G a0) :: st.map (pv_v G))) rfl (hl.1.trans C.2.2.2.1.symm) (rest := st.map (pv_v G)) rfl (by rw [C.2.1]; exact hd) (by omega) (by show 2 * 0 + _ + (7 + 11) ≤ _; rw [pv_catsum]; omega)
  have e1 : copied (vp_cell c0 (n0, .inr (.inl (L a0)))) (vp_cell c1 (n1, .inr (.inl (L a)))) sp dp n = vp_cell c1 (n1, .inr (.inl (va_cpy (L a0) (L a) sp.toNatClampNeg dp.toNatClampNeg n.toNatClampNeg))) := va_copied (fun z => .long z) c0 c1 (L a0) (L a) g4
  rw [e1] at X' step
  generalize va_cpy (L a0) (L a) sp.toNatClampNeg dp.toNatClampNeg n.toNatClampNeg = y at k X' step
  have hlt : pv_ad G a < H.size := (Array.getElem?_eq_some_iff.mp hc1).1
  have hheap : ((T.setVm vm').setCell (pv_ad G a) (vp_cell c1 (n1, .inr (.inl y)))).heap = H.setIfInBounds (pv_ad G a) (vp_cell c1 (n1, .inr (.inl y))) := by rw [← hT]; rfl
  have oq : ∀ q : Nat, q ≠ pv_ad G a → (H.setIfInBounds (pv_ad G a) (vp_cell c1 (n1, .inr (.inl y))))[q]? = H[q]? := fun q hq => by simp [Array.getElem?_setIfInBounds, Ne.symm hq]
  obtain ⟨u, a1, b1⟩ := k R p l e s m args below meth c Z _ _ cells slots lsA C F (P.set w h16 (by simp) (w.2.1.set hD hw (e := .inl (c1, n1, .inr (.inl (pv_ur L a y a)))) (show (H.setIfInBounds (pv_ad G a) _)[pv_ad G a]? = some _ by rw [pv_ur_eq]; simp [Array.getElem?_setIfInBounds, hlt]) oq) (by simp only [pv_ce, hs]; exact ⟨t1, c1, ht1, rfl⟩) (fun x hx => ⟨rfl, pv_ur_ne L y hx, rfl⟩))
    ⟨by simp; exact S.1, fun q q1 q2 => by
      rw [oq q (fun e => q2 (by rw [e]; exact hD.2 _ _ hw))]
      exact S.2.1 q q1 q2, fun q hq => by
      rcases List.mem_append.mp hq with h | h
      · exact S.2.2 q h
      · obtain ⟨z, -, hz⟩ := List.mem_map.mp h
        rw [← hz]
        exact hD.2 _ _ hw⟩ hl h1 h2 _ hheap X'
  exact ⟨u, step u a1, b1⟩
theorem pv_copyi {a0 a n0 n1 idx : Nat} {sp dp n : Int32} (hd : decode M.2.1 pc = .ok (.invokestatic idx, 3)) (hl0 : Cond.methodLink M.1.cls idx arraycopyName ∈ lw_g) (hw1 : Cond.native arraycopyName ∈ lw_g) (hw2 : Cond.static arraycopyName ∈ lw_g) (hw3 : Cond.initialized "java/lang/System" ∈ lw_g) (h16a : 16 ≤ a0) (h16 : 16 ≤ a) (hs0 : t.1 a0 = some (.inl (.int, n0))) (hs : t.1 a = some (.inl (.int, n1)))
    (g1 : ¬ sp < 0) (g2 : ¬ dp < 0) (g3 : ¬ n < 0) (g4 : sp.toNatClampNeg + n.toNatClampNeg ≤ n0) (g5 : dp.toNatClampNeg + n.toNatClampNeg ≤ n1) (hdd : 1 ≤ d) (hW : (st.map fun v => v.category).sum ≤ 8)
    (k : pv_V G M d mc ms Q bc bs (pc + 3) ls st t (pv_ur I a (va_cpy (I a0) (I a) sp.toNatClampNeg dp.toNatClampNeg n.toNatClampNeg)) L Rf) : pv_V G M d mc ms Q bc bs pc ls (.int n :: .int dp :: .ref a :: .int sp :: .ref a0 :: st) t I L Rf := by
  intro R p l e s m args below meth c Z H locs cells slots lsA C F P S hl h1 h2
  show W p l e R s m args below meth c H locs cells slots Z (F0 m pc lsA (.int n :: .int dp :: .ref (pv_ad G a) :: .int sp :: .ref (pv_ad G a0) :: st.map (pv_v G)))
  have hts := C.2.2.2.2.2.1
  have hb := C.2.2.2.2.2.2.2.2.2
  obtain ⟨-, -, -, ws, tys, w⟩ := id P
  obtain ⟨t0, c0, ht0, hw0⟩ := w.arr h16a (P.lt hs0) hs0
  obtain ⟨t1, c1, ht1, hw⟩ := w.arr h16 (P.lt hs) hs
  have hw0 : ws[a0 - 16]? = some (pv_ad G a0, .inl (c0, n0, .inl (I a0))) := hw0
  have hw : ws[a - 16]? = some (pv_ad G a, .inl (c1, n1, .inl (I a))) := hw
  have hc0 : H[pv_ad G a0]? = some (vp_cell c0 (n0, .inl (I a0))) := w.2.1 _ _ hw0
  have hc1 : H[pv_ad G a]? = some (vp_cell c1 (n1, .inl (I a))) := w.2.1 _ _ hw
  have hD := w.D
  intro T hT X
  obtain ⟨-, k0, hk0, cm0, hkk0⟩ := (w.1.2 t0 _ ht0).1 n0 (fun j => .int (I a0 j))
  obtain ⟨-, k1, hk1, cm1, hkk1⟩ := (w.1.2 t1 _ ht1).1 n1 (fun j => .int (I a j))
  obtain ⟨vm', X', step⟩ := X.arraycopy C.1 C.2.2.2.2.1 (hts _ hl0) (hts _ hw1) (hts _ hw2) (hts _ hw3) (src := pv_ad G a0) (dst := pv_ad G a) (cs := vp_cell c0 (n0, .inl (I a0))) (cd := vp_cell c1 (n1, .inl (I a))) (srcPos := sp) (destPos := dp) (n := n) (by rw [hT]; exact hc0) (by rw [hT]; exact hc1)
    (fun _ h => by cases h) (fun _ h => by cases h) (fun h => by cases h) (fun h => by cases h) hk0 hk1 hkk0 hkk1 (by simp [refKind]) g1 g2 g3
    (by rw [pv_nn sp g1, pv_nn n g3]; show ¬ _ > ((arrV c0 n0 (fun j => .int (I a0 j))).slots.size : Int); rw [arrV_size]; omega)
    (by rw [pv_nn dp g2, pv_nn n g3]; show ¬ _ > ((arrV c1 n1 (fun j => .int (I a j))).slots.size : Int); rw [arrV_size]; omega)
    (fun vm₁ _ i hi => by
      have e : (vp_cell c0 (n0, .inl (I a0))).slots.getD (sp.toNatClampNeg + i) .null = .int (I a0 (sp.toNatClampNeg + i)) := by
        show (arrV c0 n0 (fun j => .int (I a0 j))).slots.getD _ _ = _
        rw [Array.getD_eq_getD_getElem?, arrV_read _ _ (by omega)]
        rfl
      exact ⟨by rw [e]; rfl, by rw [e]; exact trivial⟩)
    (g := F0 m pc lsA (.int n :: .int dp :: .ref (pv_ad G a) :: .int sp :: .ref (pv_ad G a0) :: st.map (pv_v G))) rfl (hl.1.trans C.2.2.2.1.symm) (rest := st.map (pv_v G)) rfl (by rw [C.2.1]; exact hd) (by omega) (by show 2 * 0 + _ + (7 + 11) ≤ _; rw [pv_catsum]; omega)
  have e1 : copied (vp_cell c0 (n0, .inl (I a0))) (vp_cell c1 (n1, .inl (I a))) sp dp n = vp_cell c1 (n1, .inl (va_cpy (I a0) (I a) sp.toNatClampNeg dp.toNatClampNeg n.toNatClampNeg)) := va_copied (fun z => .int z) c0 c1 (I a0) (I a) g4
  rw [e1] at X' step
  generalize va_cpy (I a0) (I a) sp.toNatClampNeg dp.toNatClampNeg n.toNatClampNeg = y at k X' step
  have hlt : pv_ad G a < H.size := (Array.getElem?_eq_some_iff.mp hc1).1
  have hheap : ((T.setVm vm').setCell (pv_ad G a) (vp_cell c1 (n1, .inl y))).heap = H.setIfInBounds (pv_ad G a) (vp_cell c1 (n1, .inl y)) := by rw [← hT]; rfl
  have oq : ∀ q : Nat, q ≠ pv_ad G a → (H.setIfInBounds (pv_ad G a) (vp_cell c1 (n1, .inl y)))[q]? = H[q]? := fun q hq => by simp [Array.getElem?_setIfInBounds, Ne.symm hq]
  obtain ⟨u, a1, b1⟩ := k R p l e s m args below meth c Z _ _ cells slots lsA C F (P.set w h16 (by simp) (w.2.1.set hD hw (e := .inl (c1, n1, .inl (pv_ur I a y a))) (show (H.setIfInBounds (pv_ad G a) _)[pv_ad G a]? = some _ by rw [pv_ur_eq]; simp [Array.getElem?_setIfInBounds, hlt]) oq) (by simp only [pv_ce, hs]; exact ⟨t1, c1, ht1, rfl⟩) (fun x hx => ⟨pv_ur_ne I y hx, rfl, rfl⟩))
    ⟨by simp; exact S.1, fun q q1 q2 => by
      rw [oq q (fun e => q2 (by rw [e]; exact hD.2 _ _ hw))]
      exact S.2.1 q q1 q2, fun q hq => by
      rcases List.mem_append.mp hq with h | h
      · exact S.2.2 q h
      · obtain ⟨z, -, hz⟩ := List.mem_map.mp h
        rw [← hz]
        exact hD.2 _ _ hw⟩ hl h1 h2 _ hheap X'
  exact ⟨u, step u a1, b1⟩
end PVCP
