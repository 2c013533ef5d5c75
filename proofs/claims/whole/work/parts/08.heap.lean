/-! the heap's rules of the pure machine -/
theorem pv_ad_in {G : pv_G} {a : Nat} (h : 16 ≤ a) : pv_ad G a = G.2.1 + (a - 16) := by unfold pv_ad; rw [if_neg (by omega)]
theorem pv_ad_out {G : pv_G} {a : Nat} (h : a < 16) : pv_ad G a = G.2.2.1 a := by unfold pv_ad; rw [if_pos h]
theorem pv_v_rf (G : pv_G) (o : Option Nat) : pv_v G (va_rf o) = va_rf (o.map (pv_ad G)) := by cases o <;> rfl
theorem pv_u_ne {α : Type} (f : Nat → Nat → α) {a j x : Nat} (v : α) (h : x ≠ a) : pv_u f a j v x = f x := by funext y; simp [pv_u, h]
theorem pv_u_eq {α : Type} (f : Nat → Nat → α) (a j : Nat) (v : α) (y : Nat) : pv_u f a j v a y = if y = j then v else f a y := by simp [pv_u]
theorem pv_ur_ne {α : Type} (f : Nat → Nat → α) {a x : Nat} (g : Nat → α) (h : x ≠ a) : pv_ur f a g x = f x := by simp [pv_ur, h]
theorem pv_ur_eq {α : Type} (f : Nat → Nat → α) (a : Nat) (g : Nat → α) : pv_ur f a g a = g := by simp [pv_ur]
theorem pv_clsok : ∀ (ci : Nat) (r : vw_C), vwCl[ci]? = some r → (∀ w ∈ u_ws r.1 r.2.1 r.2.2, w ∈ lw_g) ∧ (∀ k, k < r.2.2 → parseFieldDescriptor (r.2.1 k).2.2.1 = some (pv_ty ci k)) ∧ (∀ a, a < r.2.2 → ∀ b, b < r.2.2 → a ≠ b → (r.2.1 a).2.1 ≠ (r.2.1 b).2.1) := by
  intro ci r h
  match ci, h with
  | 0, h => cases h; exact ⟨by decide +kernel, tyX0_ok, nmX0⟩
  | 1, h => cases h; exact ⟨by decide +kernel, tyX1_ok, nmX1⟩
  | 2, h => cases h; exact ⟨by decide +kernel, tyX2_ok, nmX2⟩
  | 3, h => cases h; exact ⟨by decide +kernel, tyX3_ok, nmX3⟩
  | 4, h => cases h; exact ⟨by decide +kernel, tyX4_ok, nmX4⟩
  | 5, h => cases h; exact ⟨by decide +kernel, tyX5_ok, nmX5⟩
  | 6, h => cases h; exact ⟨by decide +kernel, tyX6_ok, nmX6⟩
  | 7, h => cases h; exact ⟨by decide +kernel, tyX7_ok, nmX7⟩
  | 8, h => cases h; exact ⟨by decide +kernel, tyX8_ok, nmX8⟩
  | 9, h => cases h; exact ⟨by decide +kernel, tyX9_ok, nmX9⟩
  | 10, h => cases h; exact ⟨by decide +kernel, tyX10_ok, nmX10⟩
  | 11, h => cases h; exact ⟨by decide +kernel, tyX11_ok, nmX11⟩
  | 12, h => cases h; exact ⟨by decide +kernel, tyX12_ok, nmX12⟩
  | k + 13, h => simp [vwCl] at h
section PVW
variable {G : pv_G} {t : pv_T} {I I1 : pv_I} {L L1 : pv_L} {Rf R1 : pv_R} {s : State} {H H1 : Heap} {ws : va_W} {tys : List (ClassId × FieldType)}
theorem pv_W.D (w : pv_W G t I L Rf s H ws tys) : va_D (pv_A G) ws := by
  refine ⟨fun i j p q hi hj e => ?_, fun k q hk => ?_⟩
  · have h1 := (w.2.2.2 i p hi).1
    have h2 := (w.2.2.2 j q hj).1
    omega
  · show G.2.1 ≤ q.1
    rw [(w.2.2.2 k q hk).1]; exact Nat.le_add_right _ _
theorem pv_W.at (w : pv_W G t I L Rf s H ws tys) {a : Nat} (h16 : 16 ≤ a) (hlt : a < t.2) : ∃ e, ws[a - 16]? = some (pv_ad G a, e) ∧ pv_ce G t I L Rf tys a e := by
  have hl := w.2.2.1
  obtain ⟨q, hq⟩ : ∃ q, ws[a - 16]? = some q := ⟨_, List.getElem?_eq_getElem (by omega)⟩
  obtain ⟨q1, q2⟩ := w.2.2.2 _ _ hq
  rw [show a - 16 + 16 = a by omega] at q2
  obtain ⟨qa, qe⟩ := q
  refine ⟨qe, ?_, q2⟩
  rw [hq, pv_ad_in h16]
  simp only at q1
  rw [q1]
theorem pv_W.arr (w : pv_W G t I L Rf s H ws tys) {a n : Nat} {ty : FieldType} (h16 : 16 ≤ a) (hlt : a < t.2) (hs : t.1 a = some (.inl (ty, n))) : ∃ (t0 : Nat) (cA : ClassId), tys[t0]? = some (cA, ty) ∧ ws[a - 16]? = some (pv_ad G a, .inl (cA, n, pv_ar G ty I L Rf a)) := by
  obtain ⟨e, h1, h2⟩ := w.at h16 hlt
  simp only [pv_ce, hs] at h2
  obtain ⟨t0, cA, h3, rfl⟩ := h2
  exact ⟨t0, cA, h3, h1⟩
theorem pv_W.obj (w : pv_W G t I L Rf s H ws tys) {a ci : Nat} (h16 : 16 ≤ a) (hlt : a < t.2) (hs : t.1 a = some (.inr ci)) : ∃ r : vw_C, vwCl[ci]? = some r ∧ ws[a - 16]? = some (pv_ad G a, .inr (ci, pv_fl G ci r.2.2 I L Rf a)) := by
  obtain ⟨e, h1, h2⟩ := w.at h16 hlt
  simp only [pv_ce, hs] at h2
  obtain ⟨r, h3, rfl⟩ := h2
  exact ⟨r, h3, h1⟩
theorem pv_ce.congr {tys2 : List (ClassId × FieldType)} {a : Nat} {e : va_E} (h : pv_ce G t I L Rf tys a e) (hI : I1 a = I a) (hL : L1 a = L a) (hR : R1 a = Rf a) (ht : ∀ (k : Nat) q, tys[k]? = some q → tys2[k]? = some q) : pv_ce G t I1 L1 R1 tys2 a e := by
  have e1 : ∀ ty, pv_ar G ty I1 L1 R1 a = pv_ar G ty I L Rf a := fun ty => by cases ty <;> simp [pv_ar, hI, hL, hR]
  have e2 : ∀ ty j, pv_fv G ty I1 L1 R1 a j = pv_fv G ty I L Rf a j := fun ty j => by cases ty <;> simp [pv_fv, hI, hL, hR]
  unfold pv_ce at h ⊢
  cases hs : t.1 a with
  | none => simp only [hs] at h
  | some x =>
    cases x with
    | inl y =>
      obtain ⟨ty, n⟩ := y
      simp only [hs] at h ⊢
      obtain ⟨t0, cA, h1, h2⟩ := h
      exact ⟨t0, cA, ht _ _ h1, by rw [h2, e1]⟩
    | inr ci =>
      simp only [hs] at h ⊢
      obtain ⟨r, h1, h2⟩ := h
      refine ⟨r, h1, ?_⟩
      rw [h2]
      unfold pv_fl
      simp only [e2]
theorem pv_W.set (w : pv_W G t I L Rf s H ws tys) {a : Nat} {e : va_E} (h16 : 16 ≤ a) (hP : va_P G.1 vwCl (ws.set (a - 16) (pv_ad G a, e)) H1) (hce : pv_ce G t I1 L1 R1 tys a e) (ho : ∀ x, x ≠ a → I1 x = I x ∧ L1 x = L x ∧ R1 x = Rf x) : pv_W G t I1 L1 R1 s H1 (ws.set (a - 16) (pv_ad G a, e)) tys := by
  refine ⟨w.1, hP, by rw [List.length_set]; exact w.2.2.1, fun k q hk => ?_⟩
  by_cases hka : k = a - 16
  · subst hka
    rw [List.getElem?_set] at hk
    split at hk
    · split at hk
      · cases hk
        refine ⟨pv_ad_in h16, ?_⟩
        rw [show a - 16 + 16 = a by omega]; exact hce
      · cases hk
    · exact absurd rfl (by assumption)
  · rw [List.getElem?_set_ne (Ne.symm hka)] at hk
    obtain ⟨g1, g2⟩ := w.2.2.2 k q hk
    obtain ⟨o1, o2, o3⟩ := ho (k + 16) (by omega)
    exact ⟨g1, g2.congr o1 o2 o3 (fun _ _ h => h)⟩
theorem pv_Rep.lt (h : pv_Rep G t I L Rf s H) {a : Nat} {x : pv_Sh} (hs : t.1 a = some x) : a < t.2 := by
  rcases Nat.lt_or_ge a t.2 with q | q
  · exact q
  · have := h.2.1 a q
    rw [hs] at this; cases this
/-- what a store at one cell keeps -/
theorem pv_Rep.set (P : pv_Rep G t I L Rf s H) (w : pv_W G t I L Rf s H ws tys) {a : Nat} {e : va_E} (h16 : 16 ≤ a) (hz : H1.size = H.size) (hP : va_P G.1 vwCl (ws.set (a - 16) (pv_ad G a, e)) H1) (hce : pv_ce G t I1 L1 R1 tys a e) (ho : ∀ x, x ≠ a → I1 x = I x ∧ L1 x = L x ∧ R1 x = Rf x) : pv_Rep G t I1 L1 R1 s H1 := by
  refine ⟨by rw [hz]; exact P.1, P.2.1, fun x hx => ⟨(P.2.2.1 x hx).1, fun q hq j hj => ?_⟩, _, _, w.set h16 hP hce ho⟩
  rw [(ho x (by omega)).1]
  exact (P.2.2.1 x hx).2 q hq j hj
end PVW
section PVK
variable {p : Program} {l : Launch} {e : Env} {R : Room} {s : State} {m : MethodId} {args : Array Value} {below : List Frame} {meth : Method} {c : Code} {H : Heap} {locs : List Loc} {cells slots : Nat} {Z : State → Prop}
variable {cc : ByteArray} {pc : Nat} {lsA : Array Slot} {rest : List Value} {D : va_G} {A : Nat → Prop} {a : Nat} {tys : List (ClassId × FieldType)} {ws : va_W} {H0 : Heap}
/-- a store into a field; the heap's size is told -/
theorem pv_putK (hexec : p.tables.exec = Jvm.exec) (hb : c.code = cc) {own ref : String} {r : vw_C} {ci index : Nat} (hts : ∀ w ∈ lw_g, w.before args s = true) (hown : s.vm.findClass own = some m.cls) (hK : va_K D vwCl tys s) (hP : va_P D vwCl ws H) (hD : va_D A ws) (hS0 : va_S A H0 H locs) (q0 : Nat) {fs : List Value} (he : ws[q0]? = some (a, .inr (ci, fs))) (hc : vwCl[ci]? = some r) (k : Nat) (hk : k < r.2.2)
    (hlink : (Cond.fieldLink own index ref (r.2.1 k).2.1 (r.2.1 k).2.2.1).before args s = true ∧ ((r.2.1 k).2.2.2 = false ∨ ((r.2.1 k).2.2.2 = true ∧ meth.name = "<init>" ∧ (r.2.1 k).1 = own)) ∨ (r.2.1 k).2.2.2 = false ∧ ∃ host, (Cond.fieldLinkNest own index ref (r.2.1 k).2.1 (r.2.1 k).2.2.1 host).before args s = true)
    (hsame : ∀ x, s.fieldFound? (r.2.1 k).1 (r.2.1 k).2.1 (r.2.1 k).2.2.1 = some x → s.fieldFound? ref (r.2.1 k).2.1 (r.2.1 k).2.2.1 = some x) {v : Value} (hn : narrow (pv_ty ci k) v = v) (hfit : fits (pv_ty ci k) v = true) (hl : k < fs.length)
    (hdg : decode cc pc = .ok (.putfield index, 3)) (kk : ∀ (H1 : Heap) (locs1 : List Loc), H1.size = H.size → va_P D vwCl (ws.set q0 (a, .inr (ci, fs.set k v))) H1 → va_S A H0 H1 locs1 → W p l e R s m args below meth c H1 locs1 cells slots Z (F0 m (pc + 3) lsA rest)) : W p l e R s m args below meth c H locs cells slots Z (F0 m pc lsA (v :: .ref a :: rest)) := by
  obtain ⟨C, T, N⟩ := r
  obtain ⟨hin, hty, hnm⟩ := pv_clsok ci _ hc
  have hap := va_apart (own := own) hts hin _ hty hnm hK hc
  obtain ⟨r', h1, cell, q1, q2, q3, q4⟩ := hP q0 _ he
  have hr : r' = (C, T, N) := Option.some.inj (h1.symm.trans hc)
  subst hr
  obtain ⟨hS, hfc, kC, hkC, hkind⟩ := hK.1 ci _ hc
  obtain ⟨cf, kf, fi, f, hi, hsl⟩ := hS k hk
  have hst := (u_facts hfc hkC (u_lays hts hin hk) hi).1
  have hlay := hts _ (hin _ (u_in_lay hk))
  have fin : ∀ (H' : Heap) (L1 : List Loc), H'[a]? = some (cell.setSlot f.slot v) → H'.size = H.size → (∀ q, q ≠ a → H'[q]? = H[q]?) → va_S A H0 H' L1 → W p l e R s m args below meth c H' L1 cells slots Z (F0 m (pc + 3) lsA rest) := by
    intro H' L1 e1 e2 e3 e4
    rw [hsl] at e1
    exact kk H' _ e2 (hP.set hD he ⟨_, hc, t_OB.to (V := updV (vp_V fs) k v) ⟨_, e1, q2, q3, t_set q4 hap hk v⟩ (fun j _ => vp_updV_set hl v j)⟩ e3) e4
  rcases hlink with ⟨hlink, hfin | ⟨hfin, hin2, hdecl⟩⟩ | ⟨hfin, host, hlink⟩
  · unfold u_lay at hlay
    rw [if_neg (by rw [hfin]; decide)] at hlay
    have h6 := u_store hfc hkC hkind hlay hi (hty k hk) hn hfit
    exact W.putK hexec hb (f := f) ⟨hown, hlink, ⟨_, _, _, hsame _ hi⟩, hst⟩ (by rw [q2]; exact h6) q1 q3 (by rw [hsl]; exact k2_hasslot (q4 k hk)) rfl rfl hdg fun H' e1 e2 e3 => fin H' _ e1 e2 e3 (hS0.put e2 e3 (hD.2 q0 _ he))
  · unfold u_lay at hlay
    rw [if_pos hfin] at hlay
    have hcf : m.cls = cf := by
      obtain ⟨_, _, c', _, _, _, -, -, hf', -, -, -, hown2, -⟩ := Cond.laysFinal_spec hlay
      have e1 : c' = cf := by have := hi.symm.trans hf'; simp at this; exact this.1.symm
      rw [hdecl] at hown2
      rw [← e1]; exact Option.some.inj (hown.symm.trans hown2)
    have h6 := u_fits hfc hkC hkind (Or.inr hlay) hi (hty k hk) hn hfit
    exact W.putFinK hexec hb hown hlink (hsame _ hi) hst hcf hin2 (by rw [q2]; exact h6) q1 q3 (by rw [hsl]; exact k2_hasslot (q4 k hk)) rfl rfl hdg fun H' e1 e2 e3 => fin H' _ e1 e2 e3 (hS0.put e2 e3 (hD.2 q0 _ he))
  · unfold u_lay at hlay
    rw [if_neg (by rw [hfin]; decide)] at hlay
    have h6 := u_store hfc hkC hkind hlay hi (hty k hk) hn hfit
    exact va_WputK hexec hb (f := f) hown hlink (hsame _ hi) hst (by rw [q2]; exact h6) q1 q3 (by rw [hsl]; exact k2_hasslot (q4 k hk)) rfl rfl hdg fun H' e1 e2 e3 => fin H' _ e1 e2 e3 (hS0.put e2 e3 (hD.2 q0 _ he))
end PVK
/-- the entry idx of own's pool names the field j of the objects of class ci; its type; whether it is final -/
def pv_FL (own : String) (idx ci j : Nat) (ty : FieldType) (fin : Bool) : Prop := ∃ (r : vw_C) (ref : String), vwCl[ci]? = some r ∧ j < r.2.2 ∧ pv_ty ci j = ty ∧ (r.2.1 j).2.2.2 = fin ∧
  (Cond.fieldLink own idx ref (r.2.1 j).2.1 (r.2.1 j).2.2.1 ∈ lw_g ∧ (fin = true → (r.2.1 j).1 = own) ∨ fin = false ∧ ∃ host, Cond.fieldLinkNest own idx ref (r.2.1 j).2.1 (r.2.1 j).2.2.1 host ∈ lw_n) ∧ ((r.2.1 j).1 = ref ∨ Cond.sameField ref (r.2.1 j).1 (r.2.1 j).2.1 (r.2.1 j).2.2.1 ∈ lw_g)
def pv_FG (own : String) (idx ci j : Nat) (ty : FieldType) : Prop := ∃ (r : vw_C) (ref : String), vwCl[ci]? = some r ∧ j < r.2.2 ∧ pv_ty ci j = ty ∧
  (Cond.fieldLink own idx ref (r.2.1 j).2.1 (r.2.1 j).2.2.1 ∈ lw_g ∨ ∃ host, Cond.fieldLinkNest own idx ref (r.2.1 j).2.1 (r.2.1 j).2.2.1 host ∈ lw_n) ∧ ((r.2.1 j).1 = ref ∨ Cond.sameField ref (r.2.1 j).1 (r.2.1 j).2.1 (r.2.1 j).2.2.1 ∈ lw_g)
theorem pv_FL.g {own : String} {idx ci j : Nat} {ty : FieldType} {fin : Bool} (h : pv_FL own idx ci j ty fin) : pv_FG own idx ci j ty := by
  obtain ⟨r, ref, h1, h2, h3, -, h4, h5⟩ := h
  exact ⟨r, ref, h1, h2, h3, h4.elim (fun q => Or.inl q.1) (fun q => Or.inr q.2), h5⟩
theorem pv_same {own : String} {r : vw_C} {j : Nat} {ref : String} {args : Array Value} {s : State} (hts : ∀ w ∈ lw_g, w.before args s = true) (h : (r.2.1 j).1 = ref ∨ Cond.sameField ref (r.2.1 j).1 (r.2.1 j).2.1 (r.2.1 j).2.2.1 ∈ lw_g) : ∀ x, s.fieldFound? (r.2.1 j).1 (r.2.1 j).2.1 (r.2.1 j).2.2.1 = some x → s.fieldFound? ref (r.2.1 j).2.1 (r.2.1 j).2.2.1 = some x := by
  rcases h with h | h
  · subst h; exact fun _ q => q
  · exact fun x q => u_same (hts _ h) x q
theorem pv_nest {s : State} {args : Array Value} {w : Cond} (h : ∀ w ∈ lw_n, va_Nw w s) (hw : w ∈ lw_n) : w.before args s = true := by
  have hn := h w hw
  rcases pv_nw hw with ⟨a, i, b, n, d, h, rfl⟩ | ⟨a, i, x, h, rfl⟩ | ⟨a, b, rfl⟩
  · exact va_Nw.use rfl hn
  · exact va_Nw.use rfl hn
  · exact va_Nw.use rfl hn
theorem pv_fl_get (G : pv_G) (ci N : Nat) (I : pv_I) (L : pv_L) (Rf : pv_R) (a : Nat) {j : Nat} (h : j < N) : (pv_fl G ci N I L Rf a)[j]? = some (pv_fv G (pv_ty ci j) I L Rf a j) := by
  simp [pv_fl, h]
section PVH
variable {G : pv_G} {M : pv_Mth} {d mc ms bc bs pc : Nat} {Q : pv_Q} {ls st : List Value} {t : pv_T} {I : pv_I} {L : pv_L} {Rf : pv_R}
/-- a field is read -/
theorem pv_get {a ci j idx : Nat} {ty : FieldType} {v : Value} (hd : decode M.2.1 pc = .ok (.getfield idx, 3)) (hf : pv_FG M.1.cls idx ci j ty) (h16 : 16 ≤ a) (hs : t.1 a = some (.inr ci)) (hv : pv_fv G ty I L Rf a j = pv_v G v)
    (k : pv_V G M d mc ms Q bc bs (pc + 3) ls (v :: st) t I L Rf) : pv_V G M d mc ms Q bc bs pc ls (.ref a :: st) t I L Rf := by
  intro R p l e s m args below meth c Z H locs cells slots lsA C F P S hl h1 h2
  show W p l e R s m args below meth c H locs cells slots Z (F0 m pc lsA (.ref (pv_ad G a) :: st.map (pv_v G)))
  obtain ⟨r, ref, hc, hj, rfl, hlink, hsm⟩ := hf
  obtain ⟨-, -, -, ws, tys, w⟩ := id P
  obtain ⟨r', hc', hw⟩ := w.obj h16 (P.lt hs) hs
  cases hc.symm.trans hc'
  have hts := C.2.2.2.2.2.1
  have hg := pv_fl_get G ci r.2.2 I L Rf a hj
  rw [hv] at hg
  have kk := k R p l e s m args below meth c Z H locs cells slots lsA C F P S hl h1 h2
  rcases hlink with hlink | ⟨host, hlink⟩
  · exact va_get (C := r.1) (T := r.2.1) (N := r.2.2) C.1 C.2.1 hts (pv_clsok ci r hc).1 C.2.2.2.2.1 w.1 w.2.1 _ hw hc j hj (hts _ hlink) (pv_same (own := M.1.cls) hts hsm) hg hd kk
  · exact va_getN (C := r.1) (T := r.2.1) (N := r.2.2) C.1 C.2.1 hts (pv_clsok ci r hc).1 C.2.2.2.2.1 w.1 w.2.1 _ hw hc j hj (pv_nest C.2.2.2.2.2.2.2.2.1.2.2.2.2.2.2.2.1 hlink) (pv_same (own := M.1.cls) hts hsm) hg hd kk
/-- a field is written -/
theorem pv_put {a ci j idx : Nat} {ty : FieldType} {fin : Bool} {v : Value} {I1 : pv_I} {L1 : pv_L} {R1 : pv_R} (hd : decode M.2.1 pc = .ok (.putfield idx, 3)) (hf : pv_FL M.1.cls idx ci j ty fin) (hfin : fin = true → M.1.name = "<init>") (h16 : 16 ≤ a) (hs : t.1 a = some (.inr ci)) (hn : narrow ty (pv_v G v) = pv_v G v) (hfit : fits ty (pv_v G v) = true)
    (hself : ∀ y, y ≠ j → I1 a y = I a y ∧ L1 a y = L a y ∧ R1 a y = Rf a y) (hnew : pv_fv G ty I1 L1 R1 a j = pv_v G v) (ho : ∀ x, x ≠ a → I1 x = I x ∧ L1 x = L x ∧ R1 x = Rf x)
    (k : pv_V G M d mc ms Q bc bs (pc + 3) ls st t I1 L1 R1) : pv_V G M d mc ms Q bc bs pc ls (v :: .ref a :: st) t I L Rf := by
  intro R p l e s m args below meth c Z H locs cells slots lsA C F P S hl h1 h2
  show W p l e R s m args below meth c H locs cells slots Z (F0 m pc lsA (pv_v G v :: .ref (pv_ad G a) :: st.map (pv_v G)))
  obtain ⟨r, ref, hc, hj, rfl, rfl, hlink, hsm⟩ := hf
  obtain ⟨-, -, -, ws, tys, w⟩ := id P
  obtain ⟨r', hc', hw⟩ := w.obj h16 (P.lt hs) hs
  cases hc.symm.trans hc'
  have hts := C.2.2.2.2.2.1
  refine pv_putK (r := r) C.1 C.2.1 hts C.2.2.2.2.1 w.1 w.2.1 w.D S _ hw hc j hj ?_ (pv_same (own := M.1.cls) hts hsm) hn hfit (by simp [pv_fl, hj]) hd (fun H1 locs1 hz hP hS => ?_)
  · rcases hlink with ⟨hlink, h3⟩ | ⟨h3, host, hlink⟩
    · refine Or.inl ⟨hts _ hlink, ?_⟩
      cases hb : (r.2.1 j).2.2.2 with
      | false => exact Or.inl rfl
      | true => exact Or.inr ⟨rfl, C.2.2.2.2.2.2.2.1.trans (hfin hb), h3 hb⟩
    · exact Or.inr ⟨h3, host, pv_nest C.2.2.2.2.2.2.2.2.1.2.2.2.2.2.2.2.1 hlink⟩
  · refine k R p l e s m args below meth c Z H1 locs1 cells slots lsA C F (P.set w h16 hz hP ?_ ho) hS hl h1 h2
    simp only [pv_ce, hs]
    refine ⟨r, hc, ?_⟩
    congr 2
    refine List.ext_getElem? fun x => ?_
    rw [List.getElem?_set]
    by_cases hx : x < r.2.2
    · rw [pv_fl_get G ci r.2.2 I1 L1 R1 a hx, pv_fl_get G ci r.2.2 I L Rf a hx]
      by_cases hxj : j = x
      · subst hxj
        rw [if_pos rfl, if_pos (by simp [pv_fl, hj]), hnew]
      · rw [if_neg hxj]
        obtain ⟨g1, g2, g3⟩ := hself x (Ne.symm hxj)
        congr 1
        cases pv_ty ci x <;> simp [pv_fv, g1, g2, g3]
    · have e1 : ∀ I L Rf, (pv_fl G ci r.2.2 I L Rf a)[x]? = none := fun I L Rf => by simp [pv_fl]; omega
      rw [if_neg (by omega), e1, e1]
def pv_isI : FieldType → Bool
  | .int => true
  | .boolean => true
  | .byte => true
  | .short => true
  | .char => true
  | _ => false
def pv_isR : FieldType → Bool
  | .object _ => true
  | .array _ => true
  | _ => false
theorem pv_getI {a ci j idx : Nat} {ty : FieldType} (hd : decode M.2.1 pc = .ok (.getfield idx, 3)) (hf : pv_FG M.1.cls idx ci j ty) (hty : pv_isI ty = true) (h16 : 16 ≤ a) (hs : t.1 a = some (.inr ci))
    (k : pv_V G M d mc ms Q bc bs (pc + 3) ls (.int (I a j) :: st) t I L Rf) : pv_V G M d mc ms Q bc bs pc ls (.ref a :: st) t I L Rf :=
  pv_get hd hf h16 hs (by cases ty <;> first | rfl | cases hty) k
theorem pv_getL {a ci j idx : Nat} (hd : decode M.2.1 pc = .ok (.getfield idx, 3)) (hf : pv_FG M.1.cls idx ci j .long) (h16 : 16 ≤ a) (hs : t.1 a = some (.inr ci))
    (k : pv_V G M d mc ms Q bc bs (pc + 3) ls (.long (L a j) :: st) t I L Rf) : pv_V G M d mc ms Q bc bs pc ls (.ref a :: st) t I L Rf :=
  pv_get hd hf h16 hs rfl k
theorem pv_getR {a ci j idx x : Nat} {ty : FieldType} (hd : decode M.2.1 pc = .ok (.getfield idx, 3)) (hf : pv_FG M.1.cls idx ci j ty) (hty : pv_isR ty = true) (h16 : 16 ≤ a) (hs : t.1 a = some (.inr ci)) (hx : Rf a j = some x)
    (k : pv_V G M d mc ms Q bc bs (pc + 3) ls (.ref x :: st) t I L Rf) : pv_V G M d mc ms Q bc bs pc ls (.ref a :: st) t I L Rf :=
  pv_get hd hf h16 hs (by cases ty <;> first | (simp [pv_fv, hx]; rfl) | cases hty) k
theorem pv_putI {a ci j idx : Nat} {ty : FieldType} {fin : Bool} {x : Int32} (hd : decode M.2.1 pc = .ok (.putfield idx, 3)) (hf : pv_FL M.1.cls idx ci j ty fin) (hfin : fin = true → M.1.name = "<init>") (hty : pv_isI ty = true ∧ narrow ty (.int x) = .int x ∧ fits ty (.int x) = true) (h16 : 16 ≤ a) (hs : t.1 a = some (.inr ci))
    (k : pv_V G M d mc ms Q bc bs (pc + 3) ls st t (pv_u I a j x) L Rf) : pv_V G M d mc ms Q bc bs pc ls (.int x :: .ref a :: st) t I L Rf :=
  pv_put hd hf hfin h16 hs hty.2.1 hty.2.2 (fun y hy => ⟨by rw [pv_u_eq, if_neg hy], rfl, rfl⟩) (by have h := hty.1; cases ty <;> first | (simp [pv_fv, pv_v, pv_u]; done) | cases h) (fun z hz => ⟨pv_u_ne I x hz, rfl, rfl⟩) k
theorem pv_putL {a ci j idx : Nat} {fin : Bool} {x : Int64} (hd : decode M.2.1 pc = .ok (.putfield idx, 3)) (hf : pv_FL M.1.cls idx ci j .long fin) (hfin : fin = true → M.1.name = "<init>") (h16 : 16 ≤ a) (hs : t.1 a = some (.inr ci))
    (k : pv_V G M d mc ms Q bc bs (pc + 3) ls st t I (pv_u L a j x) Rf) : pv_V G M d mc ms Q bc bs pc ls (.long x :: .ref a :: st) t I L Rf :=
  pv_put hd hf hfin h16 hs rfl rfl (fun y hy => ⟨rfl, by rw [pv_u_eq, if_neg hy], rfl⟩) (by simp [pv_fv, pv_v, pv_u]) (fun z hz => ⟨rfl, pv_u_ne L x hz, rfl⟩) k
theorem pv_putR {a ci j idx : Nat} {ty : FieldType} {fin : Bool} {o : Option Nat} (hd : decode M.2.1 pc = .ok (.putfield idx, 3)) (hf : pv_FL M.1.cls idx ci j ty fin) (hfin : fin = true → M.1.name = "<init>") (hty : pv_isR ty = true) (h16 : 16 ≤ a) (hs : t.1 a = some (.inr ci)) {v : Value} (hv : v = va_rf o)
    (k : pv_V G M d mc ms Q bc bs (pc + 3) ls st t I L (pv_u Rf a j o)) : pv_V G M d mc ms Q bc bs pc ls (v :: .ref a :: st) t I L Rf := by
  subst hv
  exact pv_put hd hf hfin h16 hs (by rw [pv_v_rf]; cases ty <;> first | rfl | cases hty) (by rw [pv_v_rf]; cases ty <;> first | (cases o <;> rfl) | cases hty) (fun y hy => ⟨rfl, rfl, by rw [pv_u_eq, if_neg hy]⟩) (by rw [pv_v_rf]; cases ty <;> first | (simp [pv_fv, pv_u]; done) | cases hty) (fun z hz => ⟨rfl, rfl, pv_u_ne Rf o hz⟩) k
/-- arrays -/
theorem pv_iaload {a n : Nat} {i : Int32} (hd : decode M.2.1 pc = .ok (.iaload, 1)) (hs : t.1 a = some (.inl (.int, n))) (hi : vp_in i n) (k : pv_V G M d mc ms Q bc bs (pc + 1) ls (.int (I a i.toNatClampNeg) :: st) t I L Rf) : pv_V G M d mc ms Q bc bs pc ls (.int i :: .ref a :: st) t I L Rf := by
  intro R p l e s m args below meth c Z H locs cells slots lsA C F P S hl h1 h2
  show W p l e R s m args below meth c H locs cells slots Z (F0 m pc lsA (.int i :: .ref (pv_ad G a) :: st.map (pv_v G)))
  have kk := k R p l e s m args below meth c Z H locs cells slots lsA C F P S hl h1 h2
  rcases Nat.lt_or_ge a 16 with h16 | h16
  · obtain ⟨x1, x2⟩ := P.2.2.1 a h16
    rw [hs] at x1
    cases hx : pv_xs G a with
    | none => rw [hx] at x1; cases x1
    | some q =>
      obtain ⟨qt, qn, qf⟩ := q
      rw [hx] at x1
      simp only [Option.map_some, Option.some.injEq, Sum.inl.injEq, Prod.mk.injEq] at x1
      obtain ⟨rfl, rfl⟩ := x1
      have hT := C.2.2.2.2.2.2.2.2.1.2.1 a _ h16 hx
      rw [pv_ad_out h16]
      exact va_ti C.1 C.2.1 hT S hi (congrArg Value.int (x2 _ hx _ (Nat.not_le.mp fun q => hi (Or.inr q))).symm) hd kk
  · obtain ⟨-, -, -, ws, tys, w⟩ := id P
    obtain ⟨t0, cA, ht, hw⟩ := w.arr h16 (P.lt hs) hs
    exact va_iald C.1 C.2.1 w.1 w.2.1 _ t0 hw ht hi hd kk
theorem pv_baload {a n : Nat} {i : Int32} (hd : decode M.2.1 pc = .ok (.baload, 1)) (h16 : a < 16) (hs : t.1 a = some (.inl (.byte, n))) (hi : vp_in i n) (k : pv_V G M d mc ms Q bc bs (pc + 1) ls (.int (I a i.toNatClampNeg) :: st) t I L Rf) : pv_V G M d mc ms Q bc bs pc ls (.int i :: .ref a :: st) t I L Rf := by
  intro R p l e s m args below meth c Z H locs cells slots lsA C F P S hl h1 h2
  show W p l e R s m args below meth c H locs cells slots Z (F0 m pc lsA (.int i :: .ref (pv_ad G a) :: st.map (pv_v G)))
  have kk := k R p l e s m args below meth c Z H locs cells slots lsA C F P S hl h1 h2
  obtain ⟨x1, x2⟩ := P.2.2.1 a h16
  rw [hs] at x1
  cases hx : pv_xs G a with
  | none => rw [hx] at x1; cases x1
  | some q =>
    obtain ⟨qt, qn, qf⟩ := q
    rw [hx] at x1
    simp only [Option.map_some, Option.some.injEq, Sum.inl.injEq, Prod.mk.injEq] at x1
    obtain ⟨rfl, rfl⟩ := x1
    have hT := C.2.2.2.2.2.2.2.2.1.2.1 a _ h16 hx
    rw [pv_ad_out h16]
    exact va_tb C.1 C.2.1 hT S hi (congrArg Value.int (x2 _ hx _ (Nat.not_le.mp fun q => hi (Or.inr q))).symm) hd kk
theorem pv_alen {a n : Nat} {ty : FieldType} {v : Int32} (hd : decode M.2.1 pc = .ok (.arraylength, 1)) (hs : t.1 a = some (.inl (ty, n))) (hv : Int32.ofNat n = v) (k : pv_V G M d mc ms Q bc bs (pc + 1) ls (.int v :: st) t I L Rf) : pv_V G M d mc ms Q bc bs pc ls (.ref a :: st) t I L Rf := by
  intro R p l e s m args below meth c Z H locs cells slots lsA C F P S hl h1 h2
  show W p l e R s m args below meth c H locs cells slots Z (F0 m pc lsA (.ref (pv_ad G a) :: st.map (pv_v G)))
  have kk := k R p l e s m args below meth c Z H locs cells slots lsA C F P S hl h1 h2
  rcases Nat.lt_or_ge a 16 with h16 | h16
  · obtain ⟨x1, x2⟩ := P.2.2.1 a h16
    rw [hs] at x1
    cases hx : pv_xs G a with
    | none => rw [hx] at x1; cases x1
    | some q =>
      obtain ⟨qt, qn, qf⟩ := q
      rw [hx] at x1
      simp only [Option.map_some, Option.some.injEq, Sum.inl.injEq, Prod.mk.injEq] at x1
      obtain ⟨rfl, rfl⟩ := x1
      have hT := C.2.2.2.2.2.2.2.2.1.2.1 a _ h16 hx
      rw [pv_ad_out h16]
      exact va_tlen C.1 C.2.1 hT S hv hd kk
  · obtain ⟨-, -, -, ws, tys, w⟩ := id P
    obtain ⟨t0, cA, ht, hw⟩ := w.arr h16 (P.lt hs) hs
    exact va_alen C.1 C.2.1 w.1 w.2.1 _ t0 hw ht hv hd kk
theorem pv_laload {a n : Nat} {i : Int32} (hd : decode M.2.1 pc = .ok (.laload, 1)) (h16 : 16 ≤ a) (hs : t.1 a = some (.inl (.long, n))) (hi : vp_in i n) (k : pv_V G M d mc ms Q bc bs (pc + 1) ls (.long (L a i.toNatClampNeg) :: st) t I L Rf) : pv_V G M d mc ms Q bc bs pc ls (.int i :: .ref a :: st) t I L Rf := by
  intro R p l e s m args below meth c Z H locs cells slots lsA C F P S hl h1 h2
  show W p l e R s m args below meth c H locs cells slots Z (F0 m pc lsA (.int i :: .ref (pv_ad G a) :: st.map (pv_v G)))
  obtain ⟨-, -, -, ws, tys, w⟩ := id P
  obtain ⟨t0, cA, ht, hw⟩ := w.arr h16 (P.lt hs) hs
  exact va_lald C.1 C.2.1 w.1 w.2.1 _ t0 hw ht hi hd (k R p l e s m args below meth c Z H locs cells slots lsA C F P S hl h1 h2)
theorem pv_aaload {a n : Nat} {i : Int32} {N : String} {v : Value} (hd : decode M.2.1 pc = .ok (.aaload, 1)) (h16 : 16 ≤ a) (hs : t.1 a = some (.inl (.object N, n))) (hi : vp_in i n) (hv : va_rf (Rf a i.toNatClampNeg) = v) (k : pv_V G M d mc ms Q bc bs (pc + 1) ls (v :: st) t I L Rf) : pv_V G M d mc ms Q bc bs pc ls (.int i :: .ref a :: st) t I L Rf := by
  intro R p l e s m args below meth c Z H locs cells slots lsA C F P S hl h1 h2
  show W p l e R s m args below meth c H locs cells slots Z (F0 m pc lsA (.int i :: .ref (pv_ad G a) :: st.map (pv_v G)))
  obtain ⟨-, -, -, ws, tys, w⟩ := id P
  obtain ⟨t0, cA, ht, hw⟩ := w.arr h16 (P.lt hs) hs
  subst hv
  have kk := k R p l e s m args below meth c Z H locs cells slots lsA C F P S hl h1 h2
  rw [List.map_cons, pv_v_rf] at kk
  exact va_aldq C.1 C.2.1 w.1 w.2.1 _ t0 hw ht hi hd kk
theorem pv_iastore {a n : Nat} {i x : Int32} (hd : decode M.2.1 pc = .ok (.iastore, 1)) (h16 : 16 ≤ a) (hs : t.1 a = some (.inl (.int, n))) (hi : vp_in i n) (k : pv_V G M d mc ms Q bc bs (pc + 1) ls st t (pv_u I a i.toNatClampNeg x) L Rf) : pv_V G M d mc ms Q bc bs pc ls (.int x :: .int i :: .ref a :: st) t I L Rf := by
  intro R p l e s m args below meth c Z H locs cells slots lsA C F P S hl h1 h2
  show W p l e R s m args below meth c H locs cells slots Z (F0 m pc lsA (.int x :: .int i :: .ref (pv_ad G a) :: st.map (pv_v G)))
  obtain ⟨-, -, -, ws, tys, w⟩ := id P
  obtain ⟨t0, cA, ht, hw⟩ := w.arr h16 (P.lt hs) hs
  have hw : ws[a - 16]? = some (pv_ad G a, .inl (cA, n, .inl (I a))) := hw
  have hD := w.D
  refine W.iast C.1 C.2.1 (w.2.1 _ _ hw) ((w.1.2 t0 _ ht).1 n (fun j => .int (I a j))) (fun q => by cases q) (by show ¬ (i < 0 ∨ (arrV _ _ _).slots.size ≤ _); rw [arrV_size]; exact hi) rfl rfl hd fun H1 e1 z oq => ?_
  refine k R p l e s m args below meth c Z H1 _ cells slots lsA C F (P.set w h16 z (w.2.1.set hD hw (e := .inl (cA, n, .inl (pv_u I a i.toNatClampNeg x a))) ?_ oq) ?_ (fun y hy => ⟨pv_u_ne I x hy, rfl, rfl⟩)) (S.put z oq (hD.2 _ _ hw)) hl h1 h2
  · show H1[pv_ad G a]? = some (vp_cell _ _)
    rw [e1, vp_cell_i, vp_cell_i, arrV_store]
    congr 2
    funext q
    by_cases hq : q = i.toNatClampNeg
    · subst hq; simp [updV, pv_u]
    · simp [updV, pv_u, hq]
  · simp only [pv_ce, hs]
    exact ⟨t0, cA, ht, rfl⟩
theorem pv_lastore {a n : Nat} {i : Int32} {x : Int64} (hd : decode M.2.1 pc = .ok (.lastore, 1)) (h16 : 16 ≤ a) (hs : t.1 a = some (.inl (.long, n))) (hi : vp_in i n) (k : pv_V G M d mc ms Q bc bs (pc + 1) ls st t I (pv_u L a i.toNatClampNeg x) Rf) : pv_V G M d mc ms Q bc bs pc ls (.long x :: .int i :: .ref a :: st) t I L Rf := by
  intro R p l e s m args below meth c Z H locs cells slots lsA C F P S hl h1 h2
  show W p l e R s m args below meth c H locs cells slots Z (F0 m pc lsA (.long x :: .int i :: .ref (pv_ad G a) :: st.map (pv_v G)))
  obtain ⟨-, -, -, ws, tys, w⟩ := id P
  obtain ⟨t0, cA, ht, hw⟩ := w.arr h16 (P.lt hs) hs
  have hw : ws[a - 16]? = some (pv_ad G a, .inl (cA, n, .inr (.inl (L a)))) := hw
  have hD := w.D
  refine W.last C.1 C.2.1 (w.2.1 _ _ hw) ((w.1.2 t0 _ ht).1 n (fun j => .long (L a j))) (fun q => by cases q) (by show ¬ (i < 0 ∨ (arrV _ _ _).slots.size ≤ _); rw [arrV_size]; exact hi) rfl rfl hd fun H1 e1 z oq => ?_
  refine k R p l e s m args below meth c Z H1 _ cells slots lsA C F (P.set w h16 z (w.2.1.set hD hw (e := .inl (cA, n, .inr (.inl (pv_u L a i.toNatClampNeg x a)))) ?_ oq) ?_ (fun y hy => ⟨rfl, pv_u_ne L x hy, rfl⟩)) (S.put z oq (hD.2 _ _ hw)) hl h1 h2
  · show H1[pv_ad G a]? = some (vp_cell _ _)
    rw [e1, vp_cell_l, vp_cell_l, arrV_store]
    congr 2
    funext q
    by_cases hq : q = i.toNatClampNeg
    · subst hq; simp [updV, pv_u]
    · simp [updV, pv_u, hq]
  · simp only [pv_ce, hs]
    exact ⟨t0, cA, ht, rfl⟩
end PVH
