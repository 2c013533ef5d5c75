/-! System.arraycopy of ints and of longs -/
theorem pv_nn (z : Int32) (hz : ¬ z < 0) : z.toInt = (z.toNatClampNeg : Int) := by
  have hz0 : (0 : Int) ≤ z.toInt := by
    have := Int32.not_lt.mp hz
    simpa using Int32.le_iff_toInt_le.mp this
  show z.toInt = ((z.toInt.toNat : Nat) : Int)
  omega
section PVCP
variable {G : pv_G} {M : pv_Mth} {d mc ms bc bs pc : Nat} {Q : pv_Q} {ls st : List Value} {t : pv_T} {I : pv_I} {L : pv_L} {Rf : pv_R}
theorem pv_copyl {a0 a n0 n1 idx : Nat} {sp dp n : Int32} (hd : decode M.2.1 pc = .ok (.invokestatic idx, 3)) (hl0 : Cond.methodLink M.1.cls idx arraycopyName ∈ lw_g) (hw1 : Cond.native arraycopyName ∈ lw_g) (hw2 : Cond.static arraycopyName ∈ lw_g) (hw3 : Cond.initialized "java/lang/System" ∈ lw_g) (h16a : 16 ≤ a0) (h16 : 16 ≤ a) (hs0 : t.1 a0 = some (.inl (.long, n0))) (hs : t.1 a = some (.inl (.long, n1)))
    (g1 : ¬ sp < 0) (g2 : ¬ dp < 0) (g3 : ¬ n < 0) (g4 : sp.toNatClampNeg + n.toNatClampNeg ≤ n0) (g5 : dp.toNatClampNeg + n.toNatClampNeg ≤ n1) (hdd : 1 ≤ d) (hW : (st.map fun v => v.category).sum ≤ 8)
    (k : pv_V G M d mc ms Q bc bs (pc + 3) ls st t I (pv_ur L a (va_cpy (L a0) (L a) sp.toNatClampNeg dp.toNatClampNeg n.toNatClampNeg)) Rf) : pv_V G M d mc ms Q bc bs pc ls (.int n :: .int dp :: .ref a :: .int sp :: .ref a0 :: st) t I L Rf := by
  intro R p l e s m args below meth c Z H locs cells slots lsA C F P S hl h1 h2
  show W p l e R s m args below meth c H locs cells slots Z (F0 m pc lsA (.int n :: .int dp :: .ref (pv_ad G a) :: .int sp :: .ref (pv_ad G a0) :: st.map (pv_v G)))
  have hts := C.2.2.2.2.2.1
  have hb := C.2.2.2.2.2.2.2.2.2
  obtain ⟨-, -, -, ws, tys, w⟩ := id P
  obtain ⟨t0, c0, ht0, hw0⟩ := w.arr h16a (P.lt hs0) hs0
  obtain ⟨t1, c1, ht1, hw⟩ := w.arr h16 (P.lt hs) hs
  have hw0 : ws[a0 - 16]? = some (pv_ad G a0, .inl (c0, n0, .inr (.inl (L a0)))) := hw0
  have hw : ws[a - 16]? = some (pv_ad G a, .inl (c1, n1, .inr (.inl (L a)))) := hw
  have hc0 : H[pv_ad G a0]? = some (vp_cell c0 (n0, .inr (.inl (L a0)))) := w.2.1 _ _ hw0
  have hc1 : H[pv_ad G a]? = some (vp_cell c1 (n1, .inr (.inl (L a)))) := w.2.1 _ _ hw
  have hD := w.D
  intro T hT X
  obtain ⟨-, k0, hk0, cm0, hkk0⟩ := (w.1.2 t0 _ ht0).1 n0 (fun j => .long (L a0 j))
  obtain ⟨-, k1, hk1, cm1, hkk1⟩ := (w.1.2 t1 _ ht1).1 n1 (fun j => .long (L a j))
  obtain ⟨vm', X', step⟩ := X.arraycopy C.1 C.2.2.2.2.1 (hts _ hl0) (hts _ hw1) (hts _ hw2) (hts _ hw3) (src := pv_ad G a0) (dst := pv_ad G a) (cs := vp_cell c0 (n0, .inr (.inl (L a0)))) (cd := vp_cell c1 (n1, .inr (.inl (L a)))) (srcPos := sp) (destPos := dp) (n := n) (by rw [hT]; exact hc0) (by rw [hT]; exact hc1)
    (fun _ h => by cases h) (fun _ h => by cases h) (fun h => by cases h) (fun h => by cases h) hk0 hk1 hkk0 hkk1 (by simp [refKind]) g1 g2 g3
    (by rw [pv_nn sp g1, pv_nn n g3]; show ¬ _ > ((arrV c0 n0 (fun j => .long (L a0 j))).slots.size : Int); rw [arrV_size]; omega)
    (by rw [pv_nn dp g2, pv_nn n g3]; show ¬ _ > ((arrV c1 n1 (fun j => .long (L a j))).slots.size : Int); rw [arrV_size]; omega)
    (fun vm₁ _ i hi => by
      have e : (vp_cell c0 (n0, .inr (.inl (L a0)))).slots.getD (sp.toNatClampNeg + i) .null = .long (L a0 (sp.toNatClampNeg + i)) := by
        show (arrV c0 n0 (fun j => .long (L a0 j))).slots.getD _ _ = _
        rw [Array.getD_eq_getD_getElem?, arrV_read _ _ (by omega)]
        rfl
      exact ⟨by rw [e]; rfl, by rw [e]; exact trivial⟩)
    (g := F0 m pc lsA (.int n :: .int dp :: .ref (pv_ad G a) :: .int sp :: .ref (pv_ad G a0) :: st.map (pv_v G))) rfl (hl.1.trans C.2.2.2.1.symm) (rest := st.map (pv_v G)) rfl (by rw [C.2.1]; exact hd) (by omega) (by show 2 * 0 + _ + (7 + 11) ≤ _; rw [pv_catsum]; omega)
  have e1 : copied (vp_cell c0 (n0, .inr (.inl (L a0)))) (vp_cell c1 (n1, .inr (.inl (L a)))) sp dp n = vp_cell c1 (n1, .inr (.inl (va_cpy (L a0) (L a) sp.toNatClampNeg dp.toNatClampNeg n.toNatClampNeg))) := va_copied (fun z => .long z) c0 c1 (L a0) (L a) g4
  rw [e1] at X' step
  generalize va_cpy (L a0) (L a) sp.toNatClampNeg dp.toNatClampNeg n.toNatClampNeg = y at k X' step
  have hlt : pv_ad G a < H.size := (Array.getElem?_eq_some_iff.mp hc1).1
  have hheap : ((T.setVm vm').setCell (pv_ad G a) (vp_cell c1 (n1, .inr (.inl y)))).heap = H.setIfInBounds (pv_ad G a) (vp_cell c1 (n1, .inr (.inl y))) := by rw [← hT]; rfl
  have oq : ∀ q : Nat, q ≠ pv_ad G a → (H.setIfInBounds (pv_ad G a) (vp_cell c1 (n1, .inr (.inl y))))[q]? = H[q]? := fun q hq => by simp [Array.getElem?_setIfInBounds, Ne.symm hq]
  obtain ⟨u, a1, b1⟩ := k R p l e s m args below meth c Z _ _ cells slots lsA C F (P.set w h16 (by simp) (w.2.1.set hD hw (e := .inl (c1, n1, .inr (.inl (pv_ur L a y a)))) (show (H.setIfInBounds (pv_ad G a) _)[pv_ad G a]? = some _ by rw [pv_ur_eq]; simp [Array.getElem?_setIfInBounds, hlt]) oq) (by simp only [pv_ce, hs]; exact ⟨t1, c1, ht1, rfl⟩) (fun x hx => ⟨rfl, pv_ur_ne L y hx, rfl⟩))
    ⟨by simp; exact S.1, fun q q1 q2 => by
      rw [oq q (fun e => q2 (by rw [e]; exact hD.2 _ _ hw))]
      exact S.2.1 q q1 q2, fun q hq => by
      rcases List.mem_append.mp hq with h | h
      · exact S.2.2 q h
      · obtain ⟨z, -, hz⟩ := List.mem_map.mp h
        rw [← hz]
        exact hD.2 _ _ hw⟩ hl h1 h2 _ hheap X'
  exact ⟨u, step u a1, b1⟩
theorem pv_copyi {a0 a n0 n1 idx : Nat} {sp dp n : Int32} (hd : decode M.2.1 pc = .ok (.invokestatic idx, 3)) (hl0 : Cond.methodLink M.1.cls idx arraycopyName ∈ lw_g) (hw1 : Cond.native arraycopyName ∈ lw_g) (hw2 : Cond.static arraycopyName ∈ lw_g) (hw3 : Cond.initialized "java/lang/System" ∈ lw_g) (h16a : 16 ≤ a0) (h16 : 16 ≤ a) (hs0 : t.1 a0 = some (.inl (.int, n0))) (hs : t.1 a = some (.inl (.int, n1)))
    (g1 : ¬ sp < 0) (g2 : ¬ dp < 0) (g3 : ¬ n < 0) (g4 : sp.toNatClampNeg + n.toNatClampNeg ≤ n0) (g5 : dp.toNatClampNeg + n.toNatClampNeg ≤ n1) (hdd : 1 ≤ d) (hW : (st.map fun v => v.category).sum ≤ 8)
    (k : pv_V G M d mc ms Q bc bs (pc + 3) ls st t (pv_ur I a (va_cpy (I a0) (I a) sp.toNatClampNeg dp.toNatClampNeg n.toNatClampNeg)) L Rf) : pv_V G M d mc ms Q bc bs pc ls (.int n :: .int dp :: .ref a :: .int sp :: .ref a0 :: st) t I L Rf := by
  intro R p l e s m args below meth c Z H locs cells slots lsA C F P S hl h1 h2
  show W p l e R s m args below meth c H locs cells slots Z (F0 m pc lsA (.int n :: .int dp :: .ref (pv_ad G a) :: .int sp :: .ref (pv_ad G a0) :: st.map (pv_v G)))
  have hts := C.2.2.2.2.2.1
  have hb := C.2.2.2.2.2.2.2.2.2
  obtain ⟨-, -, -, ws, tys, w⟩ := id P
  obtain ⟨t0, c0, ht0, hw0⟩ := w.arr h16a (P.lt hs0) hs0
  obtain ⟨t1, c1, ht1, hw⟩ := w.arr h16 (P.lt hs) hs
  have hw0 : ws[a0 - 16]? = some (pv_ad G a0, .inl (c0, n0, .inl (I a0))) := hw0
  have hw : ws[a - 16]? = some (pv_ad G a, .inl (c1, n1, .inl (I a))) := hw
  have hc0 : H[pv_ad G a0]? = some (vp_cell c0 (n0, .inl (I a0))) := w.2.1 _ _ hw0
  have hc1 : H[pv_ad G a]? = some (vp_cell c1 (n1, .inl (I a))) := w.2.1 _ _ hw
  have hD := w.D
  intro T hT X
  obtain ⟨-, k0, hk0, cm0, hkk0⟩ := (w.1.2 t0 _ ht0).1 n0 (fun j => .int (I a0 j))
  obtain ⟨-, k1, hk1, cm1, hkk1⟩ := (w.1.2 t1 _ ht1).1 n1 (fun j => .int (I a j))
  obtain ⟨vm', X', step⟩ := X.arraycopy C.1 C.2.2.2.2.1 (hts _ hl0) (hts _ hw1) (hts _ hw2) (hts _ hw3) (src := pv_ad G a0) (dst := pv_ad G a) (cs := vp_cell c0 (n0, .inl (I a0))) (cd := vp_cell c1 (n1, .inl (I a))) (srcPos := sp) (destPos := dp) (n := n) (by rw [hT]; exact hc0) (by rw [hT]; exact hc1)
    (fun _ h => by cases h) (fun _ h => by cases h) (fun h => by cases h) (fun h => by cases h) hk0 hk1 hkk0 hkk1 (by simp [refKind]) g1 g2 g3
    (by rw [pv_nn sp g1, pv_nn n g3]; show ¬ _ > ((arrV c0 n0 (fun j => .int (I a0 j))).slots.size : Int); rw [arrV_size]; omega)
    (by rw [pv_nn dp g2, pv_nn n g3]; show ¬ _ > ((arrV c1 n1 (fun j => .int (I a j))).slots.size : Int); rw [arrV_size]; omega)
    (fun vm₁ _ i hi => by
      have e : (vp_cell c0 (n0, .inl (I a0))).slots.getD (sp.toNatClampNeg + i) .null = .int (I a0 (sp.toNatClampNeg + i)) := by
        show (arrV c0 n0 (fun j => .int (I a0 j))).slots.getD _ _ = _
        rw [Array.getD_eq_getD_getElem?, arrV_read _ _ (by omega)]
        rfl
      exact ⟨by rw [e]; rfl, by rw [e]; exact trivial⟩)
    (g := F0 m pc lsA (.int n :: .int dp :: .ref (pv_ad G a) :: .int sp :: .ref (pv_ad G a0) :: st.map (pv_v G))) rfl (hl.1.trans C.2.2.2.1.symm) (rest := st.map (pv_v G)) rfl (by rw [C.2.1]; exact hd) (by omega) (by show 2 * 0 + _ + (7 + 11) ≤ _; rw [pv_catsum]; omega)
  have e1 : copied (vp_cell c0 (n0, .inl (I a0))) (vp_cell c1 (n1, .inl (I a))) sp dp n = vp_cell c1 (n1, .inl (va_cpy (I a0) (I a) sp.toNatClampNeg dp.toNatClampNeg n.toNatClampNeg)) := va_copied (fun z => .int z) c0 c1 (I a0) (I a) g4
  rw [e1] at X' step
  generalize va_cpy (I a0) (I a) sp.toNatClampNeg dp.toNatClampNeg n.toNatClampNeg = y at k X' step
  have hlt : pv_ad G a < H.size := (Array.getElem?_eq_some_iff.mp hc1).1
  have hheap : ((T.setVm vm').setCell (pv_ad G a) (vp_cell c1 (n1, .inl y))).heap = H.setIfInBounds (pv_ad G a) (vp_cell c1 (n1, .inl y)) := by rw [← hT]; rfl
  have oq : ∀ q : Nat, q ≠ pv_ad G a → (H.setIfInBounds (pv_ad G a) (vp_cell c1 (n1, .inl y)))[q]? = H[q]? := fun q hq => by simp [Array.getElem?_setIfInBounds, Ne.symm hq]
  obtain ⟨u, a1, b1⟩ := k R p l e s m args below meth c Z _ _ cells slots lsA C F (P.set w h16 (by simp) (w.2.1.set hD hw (e := .inl (c1, n1, .inl (pv_ur I a y a))) (show (H.setIfInBounds (pv_ad G a) _)[pv_ad G a]? = some _ by rw [pv_ur_eq]; simp [Array.getElem?_setIfInBounds, hlt]) oq) (by simp only [pv_ce, hs]; exact ⟨t1, c1, ht1, rfl⟩) (fun x hx => ⟨pv_ur_ne I y hx, rfl, rfl⟩))
    ⟨by simp; exact S.1, fun q q1 q2 => by
      rw [oq q (fun e => q2 (by rw [e]; exact hD.2 _ _ hw))]
      exact S.2.1 q q1 q2, fun q hq => by
      rcases List.mem_append.mp hq with h | h
      · exact S.2.2 q h
      · obtain ⟨z, -, hz⟩ := List.mem_map.mp h
        rw [← hz]
        exact hD.2 _ _ hw⟩ hl h1 h2 _ hheap X'
  exact ⟨u, step u a1, b1⟩
end PVCP
/-! super.m(..), where the superclass only inherits m; calls on a word of letters -/
def pv_LSX (own : String) (idx : Nat) (x : MethodName) (M : pv_Mth) : Prop := Cond.methodLink own idx x ∈ lw_g ∧ Cond.sameMethod x.cls M.1.cls x.name x.desc ∈ lw_g ∧ Cond.superclass own x.cls ∈ lw_g ∧ Cond.superclass x.cls M.1.cls ∈ lw_g ∧ Cond.instanceMethod M.1 ∈ lw_g ∧ x.name ≠ "<init>" ∧ x.name = M.1.name ∧ x.desc = M.1.desc
def pv_LT (own : String) (idx : Nat) (M : pv_Mth) : Prop := Cond.methodLink own idx M.1 ∈ lw_g ∧ Cond.instanceMethod M.1 ∈ lw_g ∧ Cond.selects "java/lang/String" M.1 M.1 ∈ lw_g
section PVSX
variable {G : pv_G} {M M1 : pv_Mth} {d d1 mc ms mc1 ms1 bc bs pc n idx : Nat} {Q Q1 : pv_Q} {ls st st0 As : List Value} {t : pv_T} {I : pv_I} {L : pv_L} {Rf : pv_R}
theorem pv_callSX {a ci : Nat} {x : MethodName} (hd : decode M.2.1 pc = .ok (.invokespecial idx, 3)) (hg : pv_MG M1 n) (hlk : pv_LSX M.1.cls idx x M1) (h16 : 16 ≤ a) (hs : t.1 a = some (.inr ci)) (hdd : d1 + 1 ≤ d) (hm : pv_Mt G M1 d1 mc1 ms1 (.ref a :: As) t I L Rf Q1) (hn : As.length = n) (hst : st0 = As.reverse ++ .ref a :: st) (hW : (st.map fun v => v.category).sum ≤ 8)
    (k : ∀ v t I L Rf, Q1 v t I L Rf → pv_V G M d mc ms Q bc bs (pc + 3) ls (v.toList ++ st) t I L Rf) : pv_V G M d mc ms Q (bc + mc1) (bs + ms1) pc ls st0 t I L Rf := by
  intro R p l e s m args below meth c Z H locs cells slots lsA C F P S hl h1 h2
  obtain ⟨l1, l2, l3, l4, l5, l6, l7, l8⟩ := hlk
  have hts := C.2.2.2.2.2.1
  have hb := C.2.2.2.2.2.2.2.2.2
  obtain ⟨-, -, -, ws, tys, w⟩ := id P
  obtain ⟨r, hc, -⟩ := w.obj h16 (P.lt hs) hs
  obtain ⟨g1, g2, g3, g4, g5, -⟩ := id hg
  have hws : ∀ w ∈ (Cond.code M1.1 M1.2.1 M1.2.2.1 M1.2.2.2 :: lw_g), ∀ (a' : Array Value) (U : State), s.WarmedH U.vm → w.before a' U = true := pv_goodw hts (fun w hw => (List.mem_cons.mp hw).elim (fun h => h ▸ g1) id)
  have hK : Back l R p e below s args M1.1 3 8 (PreOf R mc1 ms1 (va_Pc ((.ref a :: As).map (pv_v G)) (pv_Pre G t I L Rf))) (PostOf (pv_Post G Q1) mc1 ms1 (pv_A G)) :=
    back_of (bytes := M1.2.1) (maxL := M1.2.2.1) (ret := M1.2.2.2) (hm l) pv_blind rfl rfl (by show d1 + 1 ≤ R.frames; omega) (by show 8 + (M1.2.2.1 + 11) + 64 * d1 ≤ R.locals; omega) hws List.mem_cons_self (fun a' U hW => word_at hW (good_of_word (List.mem_filter.mp g2).2) (hts _ g2))
  obtain ⟨cellB, hcB, hoB, hclB⟩ := pv_recv P h16 hs hc
  obtain ⟨hfc, kB, hkB, -⟩ := (w.1.1 ci r hc).2
  have he0 := Option.some.inj (hfc.symm.trans hclB)
  rw [he0] at hkB
  have hE : x = ⟨x.cls, x.name, x.desc⟩ := rfl
  obtain ⟨mk, methM, hnamed, hmethM, hstM, habM⟩ := Cond.instanceMethod_spec (hts _ l5)
  obtain ⟨methM', cM, hmethM', -, -, -, -, -, -, hsigM⟩ := Cond.code_spec hnamed (hts _ g1)
  cases hmethM.symm.trans hmethM'
  obtain ⟨ps, dk, kp, hps, hdk, hkp, hsuper, -, -, hnid⟩ := Cond.superclass_spec C.2.2.2.2.1 (hts _ l3)
  obtain ⟨ps2, dk2, kp2, hps2, hdk2, hkp2, hsuper2, -, -, -⟩ := Cond.superclass_spec hps (hts _ l4)
  have hn0 : s.methodNamed? ⟨M1.1.cls, x.name, x.desc⟩ = some mk := by rw [l7, l8]; exact hnamed
  have hpm : ps2 = mk.cls := Option.some.inj (hps2.symm.trans (findClass_of_methodNamed hnamed))
  have hsub : s.vm.isSubclass ps mk.cls = true := by
    rw [← hpm]
    unfold Vm.isSubclass
    rw [Vm.isSubclassAux]
    simp only [hdk2, hsuper2]
    have hz : 0 < s.vm.classes.size := Nat.lt_of_le_of_lt (Nat.zero_le _) (Array.getElem?_eq_some_iff.mp hdk2).1
    obtain ⟨z, hz⟩ : ∃ z, s.vm.classes.size = z + 1 := ⟨s.vm.classes.size - 1, by omega⟩
    rw [hz, Vm.isSubclassAux]
    simp
  have hpre := pv_pre (as := .ref a :: As) C P S
  refine pv_back (mc1 := mc1) (ms1 := ms1) (Q1 := Q1) (rest := st.map (pv_v G)) (a := ((Value.ref a :: As).map (pv_v G)).toArray) ?_ S (fun v t1 I1 L1 R1 H1 locs1 hq hP hS => ?_)
  · intro T hT X
    obtain ⟨vm₁, X₁, hstep₁⟩ := X.invokespecialUp C.1 C.2.2.2.2.1 (hts _ l1) (hts _ l2) hn0 hmethM hstM habM l6 hdk hnid hps hsuper hsub (a := pv_ad G a) (cell := cellB) (by rw [hT]; exact hcB)
      (fun z h => by rw [h] at hoB; cases hoB) hkB (g := F0 m pc lsA (st0.map (pv_v G))) rfl (argsL := As.map (pv_v G)) (rest := st.map (pv_v G)) (by rw [hsigM] at g5; simpa using hn.trans (Option.some.inj g5).symm) (pv_mapst hst) (by rw [C.2.1]; exact hd)
    obtain ⟨v, ⟨U', l2, c2, s2⟩, X', ⟨g', mk', t', L', e1, e2, hq, q1, hL, q2, q3⟩, hsteps⟩ := hK m meth c ⟨T.setVm vm₁, locs, cells, slots⟩ (F0 m pc lsA (st.map (pv_v G))) (.invokespecial idx) mk (Value.ref (pv_ad G a) :: As.map (pv_v G)).toArray X₁ rfl (hl.1.trans C.2.2.2.1.symm) (by rw [C.2.1]; exact hd) (lv_room (by rw [pv_catsum]; exact hW)) (X₁.named hnamed) ⟨by show cells + mc1 ≤ R.cells; omega, by show slots + ms1 ≤ R.slots; omega, hpre (T.setVm vm₁) hT X₁.warmed⟩
    dsimp only [Pt.U, Pt.locs, Pt.cells, Pt.slots] at X' e1 e2 q1 q2 q3 hsteps
    subst q1; subst q2; subst q3
    exact ⟨v, (T.setVm vm₁).calling g' mk' (Value.ref (pv_ad G a) :: As.map (pv_v G)).toArray, t', U', L', hT, X', hL, e1, e2, hq, fun target h => hstep₁ _ (by rw [doInvoke_state]; exact hsteps.trans h)⟩
  · rw [pv_out]
    exact k v t1 I1 L1 R1 hq R p l e s m args below meth c Z H1 locs1 _ _ lsA C F hP hS hl (by omega) (by omega)
theorem pv_callT {i : Nat} (hd : decode M.2.1 pc = .ok (.invokevirtual idx, 3)) (hg : pv_MG M1 n) (hlk : pv_LT M.1.cls idx M1) (hi : i < 3) (hdd : d1 + 1 ≤ d) (hm : pv_Mt G M1 d1 mc1 ms1 (.ref (2 + i) :: As) t I L Rf Q1) (hn : As.length = n) (hst : st0 = As.reverse ++ .ref (2 + i) :: st) (hW : (st.map fun v => v.category).sum ≤ 8)
    (k : ∀ v t I L Rf, Q1 v t I L Rf → pv_V G M d mc ms Q bc bs (pc + 3) ls (v.toList ++ st) t I L Rf) : pv_V G M d mc ms Q (bc + mc1) (bs + ms1) pc ls st0 t I L Rf := by
  intro R p l e s m args below meth c Z H locs cells slots lsA C F P S hl h1 h2
  obtain ⟨l1, l2, l3⟩ := hlk
  have hts := C.2.2.2.2.2.1
  have hb := C.2.2.2.2.2.2.2.2.2
  have hr := vk_recv C.2.2.2.2.2.2.2.2.1.2.2.2.1 hi S
  rw [← pv_ad_out (G := G) (a := 2 + i) (by omega)] at hr
  refine pv_back (va_runV (As := As.map (pv_v G)) (rest := st.map (pv_v G)) ⟨C.1, C.2.1, C.2.2.2.1, C.2.2.2.2.1, hts⟩ (hm l) ⟨pv_callB C hg (hts _ l1) hdd, hts _ l2, hts _ l3⟩ ⟨pv_blind, hr, pv_pre (as := .ref (2 + i) :: As) C P S⟩ rfl (by simpa using hn) hl.1 (pv_mapst hst) (lv_room (by rw [pv_catsum]; exact hW)) hd ⟨by omega, by omega⟩) S (fun v t1 I1 L1 R1 H1 locs1 hq hP hS => ?_)
  rw [pv_out]
  exact k v t1 I1 L1 R1 hq R p l e s m args below meth c Z H1 locs1 _ _ lsA C F hP hS hl (by omega) (by omega)
end PVSX
