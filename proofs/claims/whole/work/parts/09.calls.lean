/-! calls of the pure machine -/
def pv_MG (M : pv_Mth) (n : Nat) : Prop := Cond.code M.1 M.2.1 M.2.2.1 M.2.2.2 ∈ lw_g ∧ Cond.initialized M.1.cls ∈ lw_g ∧ (M.1.cls ≠ "java/lang/invoke/MethodHandle" ∧ M.1.cls ≠ "java/lang/invoke/VarHandle") ∧ M.2.2.1 ≤ 45 ∧ (parseMethodDescriptor M.1.desc).map (fun q => q.parameters.length) = some n ∧ plainFor M.1 = true
def pv_LV (own : String) (idx ci : Nat) (M : pv_Mth) : Prop := Cond.methodLink own idx M.1 ∈ lw_g ∧ Cond.instanceMethod M.1 ∈ lw_g ∧ ∃ r : vw_C, vwCl[ci]? = some r ∧ Cond.selects r.1 M.1 M.1 ∈ lw_g
def pv_LS (own : String) (idx : Nat) (M : pv_Mth) : Prop := Cond.methodLink own idx M.1 ∈ lw_g ∧ Cond.static M.1 ∈ lw_g
def pv_LSN (own : String) (idx : Nat) (M : pv_Mth) : Prop := (∃ host, Cond.methodLinkNest own idx M.1 host ∈ lw_n) ∧ Cond.static M.1 ∈ lw_g
def pv_LI (own : String) (idx : Nat) (M : pv_Mth) : Prop := (Cond.methodLink own idx M.1 ∈ lw_g ∨ ∃ host, Cond.methodLinkNest own idx M.1 host ∈ lw_n) ∧ M.1.name = "<init>" ∧ M.2.2.2 = none ∧ Cond.instanceMethod M.1 ∈ lw_g
def pv_LSU (own : String) (idx : Nat) (M : pv_Mth) : Prop := Cond.methodLink own idx M.1 ∈ lw_g ∧ Cond.sameMethod M.1.cls M.1.cls M.1.name M.1.desc ∈ lw_g ∧ Cond.superclass own M.1.cls ∈ lw_g ∧ Cond.instanceMethod M.1 ∈ lw_g ∧ M.1.name ≠ "<init>"
def pv_LU (own : String) (idx ci : Nat) (x : MethodName) (M : pv_Mth) : Prop := ∃ (owner : String) (r : vw_C) (b0 : ByteArray) (m0 : Nat) (r0 : Option FieldType), vwCl[ci]? = some r ∧ Cond.methodLink own idx x ∈ lw_g ∧ Cond.sameMethod x.cls owner x.name x.desc ∈ lw_g ∧ Cond.instanceMethod ⟨owner, x.name, x.desc⟩ ∈ lw_g ∧ Cond.code ⟨owner, x.name, x.desc⟩ b0 m0 r0 ∈ lw_g ∧
  (owner ≠ "java/lang/invoke/MethodHandle" ∧ owner ≠ "java/lang/invoke/VarHandle") ∧ Cond.selects r.1 x M.1 ∈ lw_g ∧ Cond.instanceMethod M.1 ∈ lw_g ∧ x.desc = M.1.desc
theorem pv_goodw {ws : List Cond} {args : Array Value} {s : State} (hts : ∀ w ∈ lw_g, w.before args s = true) (h : ∀ w ∈ ws, w ∈ lw_g) : ∀ w ∈ ws, ∀ (a' : Array Value) (U : State), s.WarmedH U.vm → w.before a' U = true :=
  fun w hw a' U hW => word_at hW (good_of_word (List.mem_filter.mp (h w hw)).2) (hts w (h w hw))
theorem pv_blind {G : pv_G} {as : List Value} {t : pv_T} {I : pv_I} {L : pv_L} {Rf : pv_R} : FrameBlind (va_Pc as (pv_Pre G t I L Rf)) := by
  intro a U g mk q
  obtain ⟨q0, qR, qE⟩ := q
  exact ⟨q0, pv_Rep.moved (s := U) (U := U.calling g mk a) (Vm.Alike.refl U.vm) qR, qE.blind⟩
section PVC
variable {p : Program} {l : Launch} {e : Env} {R : Room} {s : State} {m : MethodId} {args : Array Value} {below : List Frame} {meth : Method} {c : Code} {H : Heap} {locs : List Loc} {cells slots : Nat} {Z : State → Prop}
variable {G : pv_G} {M M1 : pv_Mth} {d d1 mc ms mc1 ms1 pc n : Nat} {Q1 : pv_Q} {t : pv_T} {I : pv_I} {L : pv_L} {Rf : pv_R} {as : List Value} {lsA : Array Slot}
theorem pv_back {rest st0 : List Value} {a : Array Value} (hr : va_Run p l e R s m args below meth c H locs cells slots mc1 ms1 (F0 m pc lsA st0) rest (pv_Post G Q1 a) (pv_A G)) (hS : va_S (pv_A G) s.heap H locs)
    (kk : ∀ v t I L Rf H1 locs1, Q1 v t I L Rf → pv_Rep G t I L Rf s H1 → va_S (pv_A G) s.heap H1 locs1 → W p l e R s m args below meth c H1 locs1 (cells + mc1) (slots + ms1) Z (F0 m (pc + 3) lsA ((v.map (pv_v G)).toList ++ rest))) : W p l e R s m args below meth c H locs cells slots Z (F0 m pc lsA st0) := by
  intro T hT X
  obtain ⟨v, st₀, u, T', Lc, h0, X', hL, e1, e2, ⟨⟨v1, t1, I1, L1, R1, hv, hq, hR⟩, hz, hk⟩, st⟩ := hr T hT X
  have hv := Outcome.returned.inj hv
  subst hv
  rw [h0] at hz hk
  have hal : s.vm.Alike u.vm := by rw [← e2]; exact X'.warmed.alike
  obtain ⟨t2, a1, b1⟩ := kk v1 t1 I1 L1 R1 T'.heap (locs ++ Lc) hq (by rw [e1]; exact hR.moved hal.symm)
    ⟨Nat.le_trans hS.1 (by rw [e1]; exact hz), fun q h1 h2 => by rw [e1, hk q (Nat.lt_of_lt_of_le h1 hS.1) h2]; exact hS.2.1 q h1 h2, fun q hq => by
      rcases List.mem_append.mp hq with h | h
      · exact hS.2.2 q h
      · exact hL q h⟩ T' rfl X'
  exact ⟨t2, st t2 a1, b1⟩
theorem pv_pre (C : pv_Ctx G M R d mc ms p s m args meth c) (P : pv_Rep G t I L Rf s H) (S : va_S (pv_A G) s.heap H locs) : ∀ U : State, U.heap = H → s.WarmedH U.vm → va_Pc (as.map (pv_v G)) (pv_Pre G t I L Rf) (as.map (pv_v G)).toArray U := by
  intro U hU hW
  refine ⟨rfl, by rw [hU]; exact P.moved hW.alike, C.2.2.2.2.2.2.2.2.1.go hW (by rw [hU]; exact S.1) (fun a h1 h2 => by rw [hU]; exact S.2.1 a h1 h2)⟩
theorem pv_callB {own : String} {idx : Nat} (C : pv_Ctx G M R d mc ms p s m args meth c) (hg : pv_MG M1 n) (hl : (Cond.methodLink own idx M1.1).before args s = true) (hd : d1 + 1 ≤ d) :
    CallB R s args own idx M1.1 M1.2.1 M1.2.2.1 M1.2.2.2 (Cond.code M1.1 M1.2.1 M1.2.2.1 M1.2.2.2 :: lw_g) { frames := d1, cells := mc1, slots := ms1, locals := 64 * d1 } mc1 ms1 n := by
  obtain ⟨g1, g2, g3, g4, g5, -⟩ := hg
  obtain ⟨-, -, -, -, -, hts, -, -, -, hd1, hd2, -, -⟩ := C
  refine ⟨rfl, rfl, ?_, ?_, pv_goodw hts (fun w hw => ?_), List.mem_cons_self, hts _ g1, hts _ g2, g3, fun sig h => ?_, hl⟩
  · show d1 + 1 ≤ R.frames
    omega
  · show 8 + (M1.2.2.1 + 11) + 64 * d1 ≤ R.locals
    omega
  · rcases List.mem_cons.mp hw with h | h
    · rw [h]; exact g1
    · exact h
  · rw [h] at g5
    exact (Option.some.inj g5).symm
theorem pv_recv (P : pv_Rep G t I L Rf s H) {a ci : Nat} {r : vw_C} (h16 : 16 ≤ a) (hs : t.1 a = some (.inr ci)) (hc : vwCl[ci]? = some r) : ∃ cell : Cell, H[pv_ad G a]? = some cell ∧ cell.vm.isStatics = false ∧ s.vm.findClass r.1 = some cell.cls := by
  obtain ⟨-, -, -, ws, tys, w⟩ := id P
  obtain ⟨r', hc', hw⟩ := w.obj h16 (P.lt hs) hs
  exact va_recv w.1 w.2.1 hc hw
theorem pv_catsum (G : pv_G) (st : List Value) : ((st.map (pv_v G)).map fun v => v.category).sum = (st.map fun v => v.category).sum := by
  induction st with
  | nil => rfl
  | cons a r ih => simp only [List.map_cons, List.sum_cons, pv_v_cat, ih]
end PVC
section PVD
variable {G : pv_G} {M M1 : pv_Mth} {d d1 mc ms mc1 ms1 bc bs pc n idx : Nat} {Q Q1 : pv_Q} {ls st st0 As : List Value} {t : pv_T} {I : pv_I} {L : pv_L} {Rf : pv_R}
theorem pv_mapst {G : pv_G} {As st st0 : List Value} {v : Value} (h : st0 = As.reverse ++ v :: st) : st0.map (pv_v G) = (As.map (pv_v G)).reverse ++ pv_v G v :: st.map (pv_v G) := by
  rw [h]; simp
theorem pv_mapst0 {G : pv_G} {As st st0 : List Value} (h : st0 = As.reverse ++ st) : st0.map (pv_v G) = (As.map (pv_v G)).reverse ++ st.map (pv_v G) := by
  rw [h]; simp
theorem pv_out {G : pv_G} {v : Option Value} {st : List Value} : (v.map (pv_v G)).toList ++ st.map (pv_v G) = (v.toList ++ st).map (pv_v G) := by cases v <;> simp
/-- a method of the receiver's own class -/
theorem pv_callV {a ci : Nat} (hd : decode M.2.1 pc = .ok (.invokevirtual idx, 3)) (hg : pv_MG M1 n) (hlk : pv_LV M.1.cls idx ci M1) (h16 : 16 ≤ a) (hs : t.1 a = some (.inr ci)) (hdd : d1 + 1 ≤ d) (hm : pv_Mt G M1 d1 mc1 ms1 (.ref a :: As) t I L Rf Q1) (hn : As.length = n) (hst : st0 = As.reverse ++ .ref a :: st) (hW : (st.map fun v => v.category).sum ≤ 8)
    (k : ∀ v t I L Rf, Q1 v t I L Rf → pv_V G M d mc ms Q bc bs (pc + 3) ls (v.toList ++ st) t I L Rf) : pv_V G M d mc ms Q (bc + mc1) (bs + ms1) pc ls st0 t I L Rf := by
  intro R p l e s m args below meth c Z H locs cells slots lsA C F P S hl h1 h2
  obtain ⟨l1, l2, r, hc, l3⟩ := hlk
  have hts := C.2.2.2.2.2.1
  have hb := C.2.2.2.2.2.2.2.2.2
  refine pv_back (va_runV (As := As.map (pv_v G)) (rest := st.map (pv_v G)) ⟨C.1, C.2.1, C.2.2.2.1, C.2.2.2.2.1, hts⟩ (hm l) ⟨pv_callB C hg (hts _ l1) hdd, hts _ l2, hts _ l3⟩ ⟨pv_blind, pv_recv P h16 hs hc, pv_pre (as := .ref a :: As) C P S⟩ rfl (by simpa using hn) hl.1 (pv_mapst hst) (lv_room (by rw [pv_catsum]; exact hW)) hd ⟨by omega, by omega⟩) S (fun v t1 I1 L1 R1 H1 locs1 hq hP hS => ?_)
  rw [pv_out]
  exact k v t1 I1 L1 R1 hq R p l e s m args below meth c Z H1 locs1 _ _ lsA C F hP hS hl (by omega) (by omega)
/-- a method that the receiver's class selects for what is named -/
theorem pv_callU {a ci : Nat} {x : MethodName} (hd : decode M.2.1 pc = .ok (.invokevirtual idx, 3)) (hg : pv_MG M1 n) (hlk : pv_LU M.1.cls idx ci x M1) (h16 : 16 ≤ a) (hs : t.1 a = some (.inr ci)) (hdd : d1 + 1 ≤ d) (hm : pv_Mt G M1 d1 mc1 ms1 (.ref a :: As) t I L Rf Q1) (hn : As.length = n) (hst : st0 = As.reverse ++ .ref a :: st) (hW : (st.map fun v => v.category).sum ≤ 8)
    (k : ∀ v t I L Rf, Q1 v t I L Rf → pv_V G M d mc ms Q bc bs (pc + 3) ls (v.toList ++ st) t I L Rf) : pv_V G M d mc ms Q (bc + mc1) (bs + ms1) pc ls st0 t I L Rf := by
  intro R p l e s m args below meth c Z H locs cells slots lsA C F P S hl h1 h2
  obtain ⟨owner, r, b0, m0, r0, hc, l1, l2, l3, l4, l5, l6, l7, l8⟩ := hlk
  have hts := C.2.2.2.2.2.1
  have hb := C.2.2.2.2.2.2.2.2.2
  obtain ⟨g1, g2, g3, g4, g5, -⟩ := id hg
  have hws : ∀ w ∈ (Cond.code M1.1 M1.2.1 M1.2.2.1 M1.2.2.2 :: lw_g), ∀ (a' : Array Value) (U : State), s.WarmedH U.vm → w.before a' U = true := pv_goodw hts (fun w hw => (List.mem_cons.mp hw).elim (fun h => h ▸ g1) id)
  refine pv_back (va_runU (x := x) (owner := owner) (As := As.map (pv_v G)) (rest := st.map (pv_v G)) ⟨C.1, C.2.1, C.2.2.2.1, C.2.2.2.2.1, hts⟩ (hm l) ⟨⟨rfl, rfl, by show d1 + 1 ≤ R.frames; omega, by show 8 + (M1.2.2.1 + 11) + 64 * d1 ≤ R.locals; omega, hws, List.mem_cons_self⟩, hts _ g1, hts _ g2, l5, ?_, hts _ l1, hts _ l2, ?_⟩ ⟨pv_blind, pv_recv P h16 hs hc, pv_pre (as := .ref a :: As) C P S⟩ rfl (by simpa using hn) hl.1 (pv_mapst hst) (lv_room (by rw [pv_catsum]; exact hW)) hd ⟨by omega, by omega⟩) S (fun v t1 I1 L1 R1 H1 locs1 hq hP hS => ?_)
  · intro sig h
    rw [l8] at h
    rw [h] at g5
    exact (Option.some.inj g5).symm
  · first
      | exact ⟨va_Decl.of (hts _ l3) (hts _ l4), hts _ l6, hts _ l7⟩
      | exact ⟨hts _ l6, hts _ l7, va_Decl.of (hts _ l3) (hts _ l4)⟩
      | exact ⟨hts _ l6, va_Decl.of (hts _ l3) (hts _ l4), hts _ l7⟩
      | exact ⟨hts _ l7, hts _ l6, va_Decl.of (hts _ l3) (hts _ l4)⟩
  · rw [pv_out]
    exact k v t1 I1 L1 R1 hq R p l e s m args below meth c Z H1 locs1 _ _ lsA C F hP hS hl (by omega) (by omega)
/-- a static method -/
theorem pv_callS (hd : decode M.2.1 pc = .ok (.invokestatic idx, 3)) (hg : pv_MG M1 n) (hlk : pv_LS M.1.cls idx M1) (hdd : d1 + 1 ≤ d) (hm : pv_Mt G M1 d1 mc1 ms1 As t I L Rf Q1) (hn : As.length = n) (hst : st0 = As.reverse ++ st) (hW : (st.map fun v => v.category).sum ≤ 8)
    (k : ∀ v t I L Rf, Q1 v t I L Rf → pv_V G M d mc ms Q bc bs (pc + 3) ls (v.toList ++ st) t I L Rf) : pv_V G M d mc ms Q (bc + mc1) (bs + ms1) pc ls st0 t I L Rf := by
  intro R p l e s m args below meth c Z H locs cells slots lsA C F P S hl h1 h2
  have hts := C.2.2.2.2.2.1
  have hb := C.2.2.2.2.2.2.2.2.2
  refine pv_back (va_runS (As := As.map (pv_v G)) (rest := st.map (pv_v G)) ⟨C.1, C.2.1, C.2.2.2.1, C.2.2.2.2.1, hts⟩ (hm l) ⟨pv_callB C hg (hts _ hlk.1) hdd, hts _ hlk.2⟩ ⟨pv_blind, pv_pre (as := As) C P S⟩ rfl (by simpa using hn) hl.1 (pv_mapst0 hst) (lv_room (by rw [pv_catsum]; exact hW)) hd ⟨by omega, by omega⟩) S (fun v t1 I1 L1 R1 H1 locs1 hq hP hS => ?_)
  rw [pv_out]
  exact k v t1 I1 L1 R1 hq R p l e s m args below meth c Z H1 locs1 _ _ lsA C F hP hS hl (by omega) (by omega)
theorem pv_callBN {own host : String} {R : Room} {p : Program} {s : State} {m : MethodId} {args : Array Value} {meth : Method} {c : Code} (C : pv_Ctx G M R d mc ms p s m args meth c) (hg : pv_MG M1 n) (hl : Cond.methodLinkNest own idx M1.1 host ∈ lw_n) (hd : d1 + 1 ≤ d) :
    va_CN R s args own idx M1.1 host M1.2.1 M1.2.2.1 M1.2.2.2 (Cond.code M1.1 M1.2.1 M1.2.2.1 M1.2.2.2 :: lw_g) { frames := d1, cells := mc1, slots := ms1, locals := 64 * d1 } mc1 ms1 n := by
  have hts := C.2.2.2.2.2.1
  have hb := C.2.2.2.2.2.2.2.2.2
  have hE := C.2.2.2.2.2.2.2.2.1
  obtain ⟨g1, g2, g3, g4, g5, -⟩ := hg
  refine ⟨⟨rfl, rfl, by show d1 + 1 ≤ R.frames; omega, by show 8 + (M1.2.2.1 + 11) + 64 * d1 ≤ R.locals; omega, pv_goodw hts (fun w hw => (List.mem_cons.mp hw).elim (fun h => h ▸ g1) id), List.mem_cons_self⟩, hts _ g1, hts _ g2, g3, fun sig h => ?_, pv_nest hE.2.2.2.2.2.2.2.1 hl⟩
  rw [h] at g5
  exact (Option.some.inj g5).symm
/-- a static method of a nest mate -/
theorem pv_callSN (hd : decode M.2.1 pc = .ok (.invokestatic idx, 3)) (hg : pv_MG M1 n) (hlk : pv_LSN M.1.cls idx M1) (hdd : d1 + 1 ≤ d) (hm : pv_Mt G M1 d1 mc1 ms1 As t I L Rf Q1) (hn : As.length = n) (hst : st0 = As.reverse ++ st) (hW : (st.map fun v => v.category).sum ≤ 8)
    (k : ∀ v t I L Rf, Q1 v t I L Rf → pv_V G M d mc ms Q bc bs (pc + 3) ls (v.toList ++ st) t I L Rf) : pv_V G M d mc ms Q (bc + mc1) (bs + ms1) pc ls st0 t I L Rf := by
  intro R p l e s m args below meth c Z H locs cells slots lsA C F P S hl h1 h2
  have hts := C.2.2.2.2.2.1
  have hb := C.2.2.2.2.2.2.2.2.2
  obtain ⟨⟨host, l1⟩, l2⟩ := hlk
  refine pv_back (va_runSN (As := As.map (pv_v G)) (rest := st.map (pv_v G)) ⟨C.1, C.2.1, C.2.2.2.1, C.2.2.2.2.1, hts⟩ (hm l) ⟨pv_callBN C hg l1 hdd, hts _ l2, trivial⟩ ⟨pv_blind, pv_pre (as := As) C P S⟩ rfl (by simpa using hn) hl.1 (pv_mapst0 hst) (lv_room (by rw [pv_catsum]; exact hW)) hd ⟨by omega, by omega⟩) S (fun v t1 I1 L1 R1 H1 locs1 hq hP hS => ?_)
  rw [pv_out]
  exact k v t1 I1 L1 R1 hq R p l e s m args below meth c Z H1 locs1 _ _ lsA C F hP hS hl (by omega) (by omega)
/-- a constructor -/
theorem pv_callI {a : Nat} (hd : decode M.2.1 pc = .ok (.invokespecial idx, 3)) (hg : pv_MG M1 n) (hlk : pv_LI M.1.cls idx M1) (hdd : d1 + 1 ≤ d) (hm : pv_Mt G M1 d1 mc1 ms1 (.ref a :: As) t I L Rf Q1) (hn : As.length = n) (hst : st0 = As.reverse ++ .ref a :: st) (hW : (st.map fun v => v.category).sum ≤ 8)
    (k : ∀ v t I L Rf, Q1 v t I L Rf → pv_V G M d mc ms Q bc bs (pc + 3) ls (v.toList ++ st) t I L Rf) : pv_V G M d mc ms Q (bc + mc1) (bs + ms1) pc ls st0 t I L Rf := by
  intro R p l e s m args below meth c Z H locs cells slots lsA C F P S hl h1 h2
  have hts := C.2.2.2.2.2.1
  have hb := C.2.2.2.2.2.2.2.2.2
  obtain ⟨l1, l2, l3, l4⟩ := hlk
  have fin : ∀ v t1 I1 L1 R1 H1 locs1, Q1 v t1 I1 L1 R1 → pv_Rep G t1 I1 L1 R1 s H1 → va_S (pv_A G) s.heap H1 locs1 → W p l e R s m args below meth c H1 locs1 (cells + mc1) (slots + ms1) Z (F0 m (pc + 3) lsA ((v.map (pv_v G)).toList ++ st.map (pv_v G))) := by
    intro v t1 I1 L1 R1 H1 locs1 hq hP hS
    rw [pv_out]
    exact k v t1 I1 L1 R1 hq R p l e s m args below meth c Z H1 locs1 _ _ lsA C F hP hS hl (by omega) (by omega)
  rcases l1 with l1 | ⟨host, l1⟩
  · have cb := pv_callB (mc1 := mc1) (ms1 := ms1) C hg (hts _ l1) hdd
    rw [l3] at cb
    exact pv_back (va_runI (As := As.map (pv_v G)) (rest := st.map (pv_v G)) ⟨C.1, C.2.1, C.2.2.2.1, C.2.2.2.2.1, hts⟩ (by have := hm l; rw [l3] at this; exact this) ⟨cb, l2, hts _ l4⟩ ⟨pv_blind, pv_pre (as := .ref a :: As) C P S⟩ rfl (by simpa using hn) hl.1 (pv_mapst hst) (lv_room (by rw [pv_catsum]; exact hW)) hd ⟨by omega, by omega⟩) S fin
  · have cb := pv_callBN (mc1 := mc1) (ms1 := ms1) C hg l1 hdd
    rw [l3] at cb
    exact pv_back (va_runIN (As := As.map (pv_v G)) (rest := st.map (pv_v G)) ⟨C.1, C.2.1, C.2.2.2.1, C.2.2.2.2.1, hts⟩ (by have := hm l; rw [l3] at this; exact this) ⟨cb, l2, hts _ l4⟩ ⟨pv_blind, pv_pre (as := .ref a :: As) C P S⟩ rfl (by simpa using hn) hl.1 (pv_mapst hst) (lv_room (by rw [pv_catsum]; exact hW)) hd ⟨by omega, by omega⟩) S fin
/-- super.m(..) -/
theorem pv_callSU {a ci : Nat} (hd : decode M.2.1 pc = .ok (.invokespecial idx, 3)) (hg : pv_MG M1 n) (hlk : pv_LSU M.1.cls idx M1) (h16 : 16 ≤ a) (hs : t.1 a = some (.inr ci)) (hdd : d1 + 1 ≤ d) (hm : pv_Mt G M1 d1 mc1 ms1 (.ref a :: As) t I L Rf Q1) (hn : As.length = n) (hst : st0 = As.reverse ++ .ref a :: st) (hW : (st.map fun v => v.category).sum ≤ 8)
    (k : ∀ v t I L Rf, Q1 v t I L Rf → pv_V G M d mc ms Q bc bs (pc + 3) ls (v.toList ++ st) t I L Rf) : pv_V G M d mc ms Q (bc + mc1) (bs + ms1) pc ls st0 t I L Rf := by
  intro R p l e s m args below meth c Z H locs cells slots lsA C F P S hl h1 h2
  have hts := C.2.2.2.2.2.1
  have hb := C.2.2.2.2.2.2.2.2.2
  obtain ⟨l1, l2, l3, l4, l5⟩ := hlk
  obtain ⟨-, -, -, ws, tys, w⟩ := id P
  obtain ⟨r, hc, -⟩ := w.obj h16 (P.lt hs) hs
  obtain ⟨g1, g2, g3, g4, g5, -⟩ := id hg
  refine pv_back (va_runSU (w.1.1 ci r hc).2 (As := As.map (pv_v G)) (rest := st.map (pv_v G)) ⟨C.1, C.2.1, C.2.2.2.1, C.2.2.2.2.1, hts⟩ (hm l) ⟨⟨rfl, rfl, by show d1 + 1 ≤ R.frames; omega, by show 8 + (M1.2.2.1 + 11) + 64 * d1 ≤ R.locals; omega, pv_goodw hts (fun w hw => (List.mem_cons.mp hw).elim (fun h => h ▸ g1) id), List.mem_cons_self⟩, hts _ l1, hts _ l2, hts _ l3, hts _ l4, hts _ g2, hts _ g1, l5, ?_⟩ ⟨pv_blind, pv_recv P h16 hs hc, pv_pre (as := .ref a :: As) C P S⟩ rfl (by simpa using hn) hl.1 (pv_mapst hst) (lv_room (by rw [pv_catsum]; exact hW)) hd ⟨by omega, by omega⟩) S (fun v t1 I1 L1 R1 H1 locs1 hq hP hS => ?_)
  · intro sig h
    rw [h] at g5
    exact (Option.some.inj g5).symm
  · rw [pv_out]
    exact k v t1 I1 L1 R1 hq R p l e s m args below meth c Z H1 locs1 _ _ lsA C F hP hS hl (by omega) (by omega)
end PVD
