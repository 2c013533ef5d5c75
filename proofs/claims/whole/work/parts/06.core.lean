/-! THE PURE MEMORY: shapes, ints, longs, references, each by address and place; addresses below 16 are outside cells that nobody writes -/
abbrev pv_Sh : Type := (FieldType × Nat) ⊕ Nat
abbrev pv_T : Type := (Nat → Option pv_Sh) × Nat
abbrev pv_I : Type := Nat → Nat → Int32
abbrev pv_L : Type := Nat → Nat → Int64
abbrev pv_R : Type := Nat → Nat → Option Nat
abbrev pv_Q : Type := Option Value → pv_T → pv_I → pv_L → pv_R → Prop
abbrev pv_Mth : Type := MethodName × ByteArray × Nat × Option FieldType
/-- the numbers of classes and slots; where our cells begin; where the outside cells are; the script's length and ints; what the one carried static holds -/
abbrev pv_G : Type := va_G × Nat × (Nat → Nat) × Nat × (Nat → Int32) × Value
def pv_u {α : Type} (f : Nat → Nat → α) (a j : Nat) (v : α) : Nat → Nat → α := fun x y => if x = a ∧ y = j then v else f x y
/-- a whole row of it -/
def pv_ur {α : Type} (f : Nat → Nat → α) (a : Nat) (g : Nat → α) : Nat → Nat → α := fun x => if x = a then g else f x
def pv_ad (G : pv_G) (k : Nat) : Nat := if k < 16 then G.2.2.1 k else G.2.1 + (k - 16)
def pv_v (G : pv_G) : Value → Value
  | .ref k => .ref (pv_ad G k)
  | .int x => .int x
  | .long x => .long x
  | .float x => .float x
  | .double x => .double x
  | .null => .null
  | .retAddr k => .retAddr k
theorem pv_v_cat (G : pv_G) (v : Value) : (pv_v G v).category = v.category := by cases v <;> rfl
def pv_A (G : pv_G) : Nat → Prop := fun q => G.2.1 ≤ q
def pv_ty (ci : Nat) : Nat → FieldType := match ci with
  | 0 => tyX0
  | 1 => tyX1
  | 2 => tyX2
  | 3 => tyX3
  | 4 => tyX4
  | 5 => tyX5
  | 6 => tyX6
  | 7 => tyX7
  | 8 => tyX8
  | 9 => tyX9
  | 10 => tyX10
  | 11 => tyX11
  | 12 => tyX12
  | _ => fun _ => .int
def pv_fv (G : pv_G) (ty : FieldType) (I : pv_I) (L : pv_L) (Rf : pv_R) (a j : Nat) : Value := match ty with
  | .long => .long (L a j)
  | .object _ => va_rf ((Rf a j).map (pv_ad G))
  | .array _ => va_rf ((Rf a j).map (pv_ad G))
  | _ => .int (I a j)
def pv_ar (G : pv_G) (ty : FieldType) (I : pv_I) (L : pv_L) (Rf : pv_R) (a : Nat) : (Nat → Int32) ⊕ (Nat → Int64) ⊕ (Nat → UInt32) ⊕ (Nat → UInt64) ⊕ (Nat → Option Nat) := match ty with
  | .long => .inr (.inl (L a))
  | .object _ => .inr (.inr (.inr (.inr (fun j => (Rf a j).map (pv_ad G)))))
  | .array _ => .inr (.inr (.inr (.inr (fun j => (Rf a j).map (pv_ad G)))))
  | _ => .inl (I a)
def pv_fl (G : pv_G) (ci N : Nat) (I : pv_I) (L : pv_L) (Rf : pv_R) (a : Nat) : List Value := (List.range N).map (fun j => pv_fv G (pv_ty ci j) I L Rf a j)
def pv_ce (G : pv_G) (t : pv_T) (I : pv_I) (L : pv_L) (Rf : pv_R) (tys : List (ClassId × FieldType)) (a : Nat) (e : va_E) : Prop := match t.1 a with
  | some (.inl (ty, n)) => ∃ (t0 : Nat) (cA : ClassId), tys[t0]? = some (cA, ty) ∧ e = .inl (cA, n, pv_ar G ty I L Rf a)
  | some (.inr ci) => ∃ r : vw_C, vwCl[ci]? = some r ∧ e = .inr (ci, pv_fl G ci r.2.2 I L Rf a)
  | none => False
def pv_above (j : Nat) : Int32 := ([-1, 0, 1, 1, 0, 4, 4] : List Int32).getD j 0
def pv_sl : List Nat := [6, 4, 5]
def pv_sb : List (List Int32) := [[102, 105, 103, 117, 114, 101], [99, 97, 108, 108], [115, 116, 97, 114, 116]]
/-- the outside rows: the script, the table ABOVE, the letters of three words -/
def pv_xs (G : pv_G) (a : Nat) : Option (FieldType × Nat × (Nat → Int32)) := match a with
  | 0 => some (.int, G.2.2.2.1, G.2.2.2.2.1)
  | 1 => some (.int, 7, pv_above)
  | 5 => some (.byte, 6, fun j => (pv_sb.getD 0 []).getD j 0)
  | 6 => some (.byte, 4, fun j => (pv_sb.getD 1 []).getD j 0)
  | 7 => some (.byte, 5, fun j => (pv_sb.getD 2 []).getD j 0)
  | _ => none
def pv_W (G : pv_G) (t : pv_T) (I : pv_I) (L : pv_L) (Rf : pv_R) (s : State) (H : Heap) (ws : va_W) (tys : List (ClassId × FieldType)) : Prop :=
  va_K G.1 vwCl tys s ∧ va_P G.1 vwCl ws H ∧ ws.length + 16 = t.2 ∧ ∀ (k : Nat) (q : Nat × va_E), ws[k]? = some q → q.1 = G.2.1 + k ∧ pv_ce G t I L Rf tys (k + 16) q.2
def pv_X (G : pv_G) (t : pv_T) (I : pv_I) : Prop := ∀ a, a < 16 → t.1 a = (pv_xs G a).map (fun q => .inl (q.1, q.2.1)) ∧ ∀ q, pv_xs G a = some q → ∀ j, j < q.2.1 → I a j = q.2.2 j
def pv_Rep (G : pv_G) (t : pv_T) (I : pv_I) (L : pv_L) (Rf : pv_R) (s : State) (H : Heap) : Prop :=
  H.size + 16 = G.2.1 + t.2 ∧ (∀ a, t.2 ≤ a → t.1 a = none) ∧ pv_X G t I ∧ ∃ ws tys, pv_W G t I L Rf s H ws tys
def pv_Ext (G : pv_G) (s : State) : Prop :=
  G.2.1 ≤ s.heap.size ∧ (∀ (a : Nat) (q : FieldType × Nat × (Nat → Int32)), a < 16 → pv_xs G a = some q → va_T q.1 (G.2.2.1 a) q.2.1 (fun j => .int (q.2.2 j)) (pv_A G) s s.heap) ∧
  va_Z "TwoRopes" "ABOVE" "[I" (.ref (G.2.2.1 1)) (pv_A G) s s.heap ∧
  vk_S 3 pv_sl pv_sb (fun i => G.2.2.1 (2 + i)) (fun i => G.2.2.1 (5 + i)) (pv_A G) s s.heap ∧
  (vk_R "TwoRopes" 442 "figure" (G.2.2.1 2) s ∧ vk_R "TwoRopes" 454 "call" (G.2.2.1 3) s ∧ vk_R "TwoRopes" 459 "start" (G.2.2.1 4) s) ∧
  va_Z "java/lang/String" "COMPACT_STRINGS" "Z" (.int 1) (pv_A G) s s.heap ∧
  va_Z "jdk/internal/util/Preconditions" "SIOOBE_FORMATTER" "Ljava/util/function/BiFunction;" (pv_v G G.2.2.2.2.2) (pv_A G) s s.heap ∧
  (∀ w ∈ lw_n, va_Nw w s) ∧ va_AO "TwoRopes$Shelf" s ∧ va_AO "TwoRopes$Dance" s
theorem pv_nw {w : Cond} (h : w ∈ lw_n) : (∃ a i b n d h, w = .fieldLinkNest a i b n d h) ∨ (∃ a i x h, w = .methodLinkNest a i x h) ∨ ∃ a b, w = .castable a b := by
  have h1 := (List.mem_filter.mp h).2
  cases w <;> simp [pv_isN] at h1 <;> simp
theorem pv_Ext.go {G : pv_G} {s U : State} (h : pv_Ext G s) (hW : s.WarmedH U.vm) (hz : s.heap.size ≤ U.heap.size) (hk : ∀ a : Nat, a < s.heap.size → ¬ pv_A G a → U.heap[a]? = s.heap[a]?) : pv_Ext G U := by
  obtain ⟨h1, h2, h3, h4, ⟨h5, h6, h7⟩, h8, h9, h10, h11, h12⟩ := h
  have ha := hW.alike
  refine ⟨Nat.le_trans h1 hz, fun a q q1 q2 => va_T.moved ha ((h2 a q q1 q2).kept hk), va_Z.moved ha (h3.kept hk), vk_S.moved ha (h4.kept hk), ⟨vk_R.warm hW h5, vk_R.warm hW h6, vk_R.warm hW h7⟩, va_Z.moved ha (h8.kept hk), va_Z.moved ha (h9.kept hk), fun w hw => ?_, va_AO.moved ha h11, va_AO.moved ha h12⟩
  have hn := h10 w hw
  rcases pv_nw hw with ⟨a, i, b, n, d, h, rfl⟩ | ⟨a, i, x, h, rfl⟩ | ⟨a, b, rfl⟩
  · exact va_Nw.warmF hW hn
  · exact va_Nw.warmM hW hn
  · exact va_Nw.warmC hW hn
theorem pv_Ext.blind {G : pv_G} {U : State} {g : JFrame} {mk : MethodId} {a : Array Value} (h : pv_Ext G U) : pv_Ext G (U.calling g mk a) := by
  obtain ⟨h1, h2, h3, h4, ⟨h5, h6, h7⟩, h8, h9, h10, h11, h12⟩ := h
  have ha : U.vm.Alike (U.calling g mk a).vm := Vm.Alike.refl U.vm
  refine ⟨h1, fun a q q1 q2 => va_T.moved ha (h2 a q q1 q2), va_Z.moved ha h3, vk_S.moved ha h4, ⟨vk_R.same rfl h5, vk_R.same rfl h6, vk_R.same rfl h7⟩, va_Z.moved ha h8, va_Z.moved ha h9, fun w hw => ?_, va_AO.moved ha h11, va_AO.moved ha h12⟩
  have hn := h10 w hw
  rcases pv_nw hw with ⟨a, i, b, n, d, h, rfl⟩ | ⟨a, i, x, h, rfl⟩ | ⟨a, b, rfl⟩
  · exact va_Nw.same rfl rfl hn
  · exact va_Nw.same rfl rfl hn
  · exact va_Nw.same rfl rfl hn
theorem pv_Rep.moved {G : pv_G} {t : pv_T} {I : pv_I} {L : pv_L} {Rf : pv_R} {s U : State} {H : Heap} (hvm : s.vm.Alike U.vm) (h : pv_Rep G t I L Rf s H) : pv_Rep G t I L Rf U H := by
  obtain ⟨h1, h2, h3, ws, tys, hK, h4⟩ := h
  exact ⟨h1, h2, h3, ws, tys, hK.moved hvm, h4⟩
/-! the listed locals: place by place; .retAddr stands for 'nothing is known' -/
def pv_lm (G : pv_G) : Nat → List Value → List (Nat × Value)
  | _, [] => []
  | i, .retAddr _ :: r => pv_lm G (i + 1) r
  | i, v :: r => (i, pv_v G v) :: pv_lm G (i + 1) r
theorem pv_lm_mem (G : pv_G) : ∀ (ls : List Value) (i j : Nat) (w : Value), (j, w) ∈ pv_lm G i ls ↔ ∃ v, i ≤ j ∧ ls[j - i]? = some v ∧ (∀ k, v ≠ .retAddr k) ∧ w = pv_v G v
  | [], i, j, w => by simp [pv_lm]
  | a :: r, i, j, w => by
    have ih := pv_lm_mem G r (i + 1) j w
    have key : (∃ v, i + 1 ≤ j ∧ r[j - (i + 1)]? = some v ∧ (∀ k, v ≠ .retAddr k) ∧ w = pv_v G v) ↔ ∃ v, i < j ∧ (a :: r)[j - i]? = some v ∧ (∀ k, v ≠ .retAddr k) ∧ w = pv_v G v := by
      constructor
      · rintro ⟨v, h1, h2, h3⟩
        refine ⟨v, h1, ?_, h3⟩
        rw [show j - i = (j - (i + 1)) + 1 by omega, List.getElem?_cons_succ]; exact h2
      · rintro ⟨v, h1, h2, h3⟩
        refine ⟨v, h1, ?_, h3⟩
        rw [show j - i = (j - (i + 1)) + 1 by omega, List.getElem?_cons_succ] at h2; exact h2
    have gen : (∀ k, a ≠ .retAddr k) → pv_lm G i (a :: r) = (i, pv_v G a) :: pv_lm G (i + 1) r := by
      intro h
      cases a with
      | retAddr k => exact absurd rfl (h k)
      | _ => rfl
    by_cases hr : ∃ k, a = .retAddr k
    · obtain ⟨k, rfl⟩ := hr
      show (j, w) ∈ pv_lm G (i + 1) r ↔ _
      rw [ih, key]
      constructor
      · rintro ⟨v, h1, h2⟩; exact ⟨v, by omega, h2⟩
      · rintro ⟨v, h1, h2, h3, h4⟩
        refine ⟨v, ?_, h2, h3, h4⟩
        rcases Nat.lt_or_ge i j with q | q
        · exact q
        · have : j - i = 0 := by omega
          rw [this] at h2; cases h2; exact absurd rfl (h3 k)
    · have hr' : ∀ k, a ≠ .retAddr k := fun k e => hr ⟨k, e⟩
      rw [gen hr', List.mem_cons, ih, key]
      constructor
      · rintro (h | ⟨v, h1, h2⟩)
        · cases h; exact ⟨a, Nat.le_refl _, by simp, hr', rfl⟩
        · exact ⟨v, by omega, h2⟩
      · rintro ⟨v, h1, h2, h3, h4⟩
        rcases Nat.lt_or_ge i j with q | q
        · exact Or.inr ⟨v, q, h2, h3, h4⟩
        · have e : j = i := by omega
          subst e
          rw [Nat.sub_self] at h2; cases h2; subst h4; exact Or.inl rfl
def pv_loc (G : pv_G) (lsA : Array Slot) (nL : Nat) (ls : List Value) : Prop := lv_has lsA nL (pv_lm G 0 ls)
theorem pv_loc.at {G : pv_G} {lsA : Array Slot} {nL : Nat} {ls : List Value} (h : pv_loc G lsA nL ls) {i : Nat} {v : Value} (hv : ls[i]? = some v) (hr : ∀ k, v ≠ .retAddr k) : lsA[i]? = some (.val (pv_v G v)) :=
  h.2.2 (i, pv_v G v) ((pv_lm_mem G ls 0 i _).mpr ⟨v, Nat.zero_le _, hv, hr, rfl⟩)
theorem pv_loc.sub {G : pv_G} {lsA : Array Slot} {nL : Nat} {ls ls' : List Value} (h : pv_loc G lsA nL ls) (hs : ∀ (i : Nat) (v : Value), ls'[i]? = some v → (∀ k, v ≠ .retAddr k) → ls[i]? = some v) : pv_loc G lsA nL ls' := by
  refine ⟨h.1, h.2.1, fun q hq => h.2.2 q ?_⟩
  obtain ⟨j, w⟩ := q
  obtain ⟨v, h1, h2, h3, h4⟩ := (pv_lm_mem G ls' 0 j w).mp hq
  exact (pv_lm_mem G ls 0 j w).mpr ⟨v, h1, hs _ _ h2 h3, h3, h4⟩
/-- behind a store of one word at i -/
theorem pv_loc.st1 {G : pv_G} {lsA : Array Slot} {nL i : Nat} {ls : List Value} {x : Value} (h : lv_has lsA nL ((i, pv_v G x) :: (pv_lm G 0 ls).filter (fun q => !(q.1 == i) && !(q.1 + 1 == i && q.2.category == 2)))) (hc : ∀ j v, j + 1 = i → ls[j]? = some v → v.category = 1) : pv_loc G lsA nL (ls.set i x) := by
  refine ⟨h.1, h.2.1, fun q hq => h.2.2 q ?_⟩
  obtain ⟨j, w⟩ := q
  obtain ⟨v, -, h2, h3, h4⟩ := (pv_lm_mem G _ 0 j w).mp hq
  rw [Nat.sub_zero] at h2
  by_cases hj : j = i
  · subst hj
    rw [List.getElem?_set] at h2
    split at h2
    · split at h2
      · cases h2; subst h4; exact List.mem_cons_self
      · cases h2
    · exact absurd rfl (by assumption)
  · rw [List.getElem?_set_ne (Ne.symm hj)] at h2
    refine List.mem_cons_of_mem _ (List.mem_filter.mpr ⟨(pv_lm_mem G ls 0 j w).mpr ⟨v, Nat.zero_le _, h2, h3, h4⟩, ?_⟩)
    have h5 : ¬ (j + 1 = i ∧ w.category = 2) := by
      rintro ⟨q1, q2⟩
      rw [h4, pv_v_cat, hc j v q1 h2] at q2
      cases q2
    simp only [Bool.and_eq_true, Bool.not_eq_true', beq_eq_false_iff_ne, ne_eq, Bool.and_eq_false_iff, hj, not_false_eq_true, true_and]
    by_cases q1 : j + 1 = i
    · exact Or.inr (fun q2 => h5 ⟨q1, q2⟩)
    · exact Or.inl q1
/-- behind a store of two words at i -/
theorem pv_loc.st2 {G : pv_G} {lsA : Array Slot} {nL i : Nat} {ls : List Value} {x : Value} (h : lv_has lsA nL ((i, pv_v G x) :: (pv_lm G 0 ls).filter (fun q => !(q.1 == i) && (!(q.1 == i + 1) && !(q.1 + 1 == i && q.2.category == 2))))) (hc : ∀ j v, j + 1 = i → ls[j]? = some v → v.category = 1) : pv_loc G lsA nL ((ls.set i x).set (i + 1) (.retAddr 0)) := by
  refine ⟨h.1, h.2.1, fun q hq => h.2.2 q ?_⟩
  obtain ⟨j, w⟩ := q
  obtain ⟨v, -, h2, h3, h4⟩ := (pv_lm_mem G _ 0 j w).mp hq
  rw [Nat.sub_zero] at h2
  by_cases hj1 : j = i + 1
  · subst hj1
    rw [List.getElem?_set] at h2
    split at h2
    · split at h2
      · cases h2; exact absurd rfl (h3 0)
      · cases h2
    · exact absurd rfl (by assumption)
  rw [List.getElem?_set_ne (Ne.symm hj1)] at h2
  by_cases hj : j = i
  · subst hj
    rw [List.getElem?_set] at h2
    split at h2
    · split at h2
      · cases h2; subst h4; exact List.mem_cons_self
      · cases h2
    · exact absurd rfl (by assumption)
  · rw [List.getElem?_set_ne (Ne.symm hj)] at h2
    refine List.mem_cons_of_mem _ (List.mem_filter.mpr ⟨(pv_lm_mem G ls 0 j w).mpr ⟨v, Nat.zero_le _, h2, h3, h4⟩, ?_⟩)
    have h5 : ¬ (j + 1 = i ∧ w.category = 2) := by
      rintro ⟨q1, q2⟩
      rw [h4, pv_v_cat, hc j v q1 h2] at q2
      cases q2
    simp only [Bool.and_eq_true, Bool.not_eq_true', beq_eq_false_iff_ne, ne_eq, Bool.and_eq_false_iff, hj, hj1, not_false_eq_true, true_and]
    by_cases q1 : j + 1 = i
    · exact Or.inr (fun q2 => h5 ⟨q1, q2⟩)
    · exact Or.inl q1
/-! what a method's body owes, and what it may take -/
def pv_isRet (cc : ByteArray) (pc : Nat) (ret : Option FieldType) (v : Option Value) : Prop :=
  (∃ (x : Int32) (ty : FieldType), v = some (.int x) ∧ ret = some ty ∧ narrow ty (.int x) = .int x ∧ decode cc pc = .ok (.ireturn, 1)) ∨
  (∃ x : Int64, v = some (.long x) ∧ ret = some .long ∧ decode cc pc = .ok (.lreturn, 1)) ∨
  (∃ (x : Value) (ty : FieldType), v = some x ∧ (x = .null ∨ ∃ a, x = .ref a) ∧ ret = some ty ∧ ((∃ n, ty = .object n) ∨ ∃ u, ty = .array u) ∧ decode cc pc = .ok (.areturn, 1)) ∨
  (v = none ∧ ret = none ∧ decode cc pc = .ok (.return_, 1))
def pv_Ctx (G : pv_G) (M : pv_Mth) (R : Room) (d mc ms : Nat) (p : Program) (s : State) (m : MethodId) (args : Array Value) (meth : Method) (c : Code) : Prop :=
  p.tables.exec = Jvm.exec ∧ c.code = M.2.1 ∧ meth.sig.returnType = M.2.2.2 ∧ c.maxLocals = M.2.2.1 ∧ s.vm.findClass M.1.cls = some m.cls ∧ (∀ w ∈ lw_g, w.before args s = true) ∧ meth.locks = false ∧ meth.name = M.1.name ∧ pv_Ext G s ∧
  (d ≤ R.frames ∧ 64 * d ≤ R.locals ∧ mc ≤ R.cells ∧ ms ≤ R.slots)
def pv_Fin (G : pv_G) (M : pv_Mth) (R : Room) (mc ms : Nat) (p : Program) (l : Launch) (e : Env) (s : State) (m : MethodId) (args : Array Value) (below : List Frame) (meth : Method) (c : Code) (Z : State → Prop) (Q : pv_Q) : Prop :=
  ∀ (v : Option Value) (t : pv_T) (I : pv_I) (L : pv_L) (Rf : pv_R) (H : Heap) (locs : List Loc) (pc : Nat) (lsA : Array Slot), Q v t I L Rf → pv_Rep G t I L Rf s H → va_S (pv_A G) s.heap H locs → pv_isRet M.2.1 pc M.2.2.2 v →
    W p l e R s m args below meth c H locs mc ms Z (F0 m pc lsA ((v.map (pv_v G)).toList))
def pv_V (G : pv_G) (M : pv_Mth) (d mc ms : Nat) (Q : pv_Q) (bc bs pc : Nat) (ls st : List Value) (t : pv_T) (I : pv_I) (L : pv_L) (Rf : pv_R) : Prop :=
  ∀ (R : Room) (p : Program) (l : Launch) (e : Env) (s : State) (m : MethodId) (args : Array Value) (below : List Frame) (meth : Method) (c : Code) (Z : State → Prop) (H : Heap) (locs : List Loc) (cells slots : Nat) (lsA : Array Slot),
    pv_Ctx G M R d mc ms p s m args meth c → pv_Fin G M R mc ms p l e s m args below meth c Z Q → pv_Rep G t I L Rf s H → va_S (pv_A G) s.heap H locs → pv_loc G lsA M.2.2.1 ls → cells + bc ≤ mc → slots + bs ≤ ms →
    W p l e R s m args below meth c H locs cells slots Z (F0 m pc lsA (st.map (pv_v G)))
def pv_Pre (G : pv_G) (t : pv_T) (I : pv_I) (L : pv_L) (Rf : pv_R) (U : State) : Prop := pv_Rep G t I L Rf U U.heap ∧ pv_Ext G U
def pv_Post (G : pv_G) (Q : pv_Q) : Array Value → State → Outcome → State → Prop := fun _ st o u =>
  (∃ (v : Option Value) (t : pv_T) (I : pv_I) (L : pv_L) (Rf : pv_R), o = .returned (v.map (pv_v G)) ∧ Q v t I L Rf ∧ pv_Rep G t I L Rf u u.heap) ∧ va_F (pv_A G) st u
/-- A METHOD's CONTRACT: from these arguments and this memory it comes back with an answer and a memory of which Q says what is due; at most mc cells of ms slots are new; d frames are enough -/
def pv_Mt (G : pv_G) (M : pv_Mth) (d mc ms : Nat) (as : List Value) (t : pv_T) (I : pv_I) (L : pv_L) (Rf : pv_R) (Q : pv_Q) : Prop :=
  ∀ l : Launch, Met l M.1 (Cond.code M.1 M.2.1 M.2.2.1 M.2.2.2 :: lw_g) { frames := d, cells := mc, slots := ms, locals := 64 * d } (va_Pc (as.map (pv_v G)) (pv_Pre G t I L Rf)) (pv_Post G Q) mc ms (pv_A G)
def pv_ent : List Value → List Value
  | [] => []
  | .long x :: r => .long x :: .retAddr 0 :: pv_ent r
  | .double x :: r => .double x :: .retAddr 0 :: pv_ent r
  | v :: r => v :: pv_ent r
theorem pv_lg_cons (a : Value) (r : List Value) : (lg_sl (a :: r)).length = (if a.category = 2 then 2 else 1) + (lg_sl r).length := by
  simp only [lg_sl, List.flatMap_cons, List.length_append]
  split <;> simp
theorem pv_ent_len (G : pv_G) : ∀ as : List Value, (lg_sl (as.map (pv_v G))).length = (pv_ent as).length
  | [] => rfl
  | v :: r => by
    have ih := pv_ent_len G r
    rw [List.map_cons, pv_lg_cons, ih, pv_v_cat]
    cases v <;> simp [pv_ent, Value.category] <;> omega
theorem pv_ent_at (G : pv_G) : ∀ (as : List Value) (i j : Nat) (v : Value), i ≤ j → (pv_ent as)[j - i]? = some v → (∀ k, v ≠ .retAddr k) → (j, pv_v G v) ∈ lv_args i (as.map (pv_v G))
  | [], i, j, v, _, h, _ => by simp [pv_ent] at h
  | a :: r, i, j, v, hij, h, hr => by
    have one : ∀ (x : Value), (pv_v G x).category = 1 → pv_ent (x :: r) = x :: pv_ent r → (pv_ent (x :: r))[j - i]? = some v → (j, pv_v G v) ∈ lv_args i ((x :: r).map (pv_v G)) := by
      intro x hx he h
      rw [he] at h
      simp only [List.map_cons, lv_args]
      rw [if_neg (by rw [hx]; decide)]
      rcases Nat.lt_or_ge i j with q | q
      · rw [show j - i = (j - (i + 1)) + 1 by omega, List.getElem?_cons_succ] at h
        exact List.mem_cons_of_mem _ (pv_ent_at G r (i + 1) j v q h hr)
      · have e : j = i := by omega
        subst e
        rw [Nat.sub_self] at h; cases h; exact List.mem_cons_self
    have two : ∀ (x : Value), (pv_v G x).category = 2 → pv_ent (x :: r) = x :: .retAddr 0 :: pv_ent r → (pv_ent (x :: r))[j - i]? = some v → (j, pv_v G v) ∈ lv_args i ((x :: r).map (pv_v G)) := by
      intro x hx he h
      rw [he] at h
      simp only [List.map_cons, lv_args]
      rw [if_pos hx]
      rcases Nat.lt_or_ge i j with q | q
      · rw [show j - i = (j - (i + 1)) + 1 by omega, List.getElem?_cons_succ] at h
        rcases Nat.lt_or_ge (i + 1) j with q2 | q2
        · rw [show j - (i + 1) = (j - (i + 2)) + 1 by omega, List.getElem?_cons_succ] at h
          exact List.mem_cons_of_mem _ (pv_ent_at G r (i + 2) j v q2 h hr)
        · rw [show j - (i + 1) = 0 by omega] at h
          cases h; exact absurd rfl (hr 0)
      · have e : j = i := by omega
        subst e
        rw [Nat.sub_self] at h; cases h; exact List.mem_cons_self
    cases a with
    | long x => exact two _ rfl rfl h
    | double x => exact two _ rfl rfl h
    | int x => exact one _ rfl rfl h
    | float x => exact one _ rfl rfl h
    | null => exact one _ rfl rfl h
    | ref x => exact one _ rfl rfl h
    | retAddr x => exact one _ rfl rfl h
/-- as Met.ofW, also for classes of which some methods have rows of their own -/
theorem pv_ofW {l : Launch} {y : MethodName} {ws ws' : List Cond} {rm : Room} {Pc : Array Value → State → Prop} {Qc : Array Value → State → Outcome → State → Prop} {mc ms : Nat} {free : Addr → Prop} {cc : ByteArray} {maxL : Nat} {ret : Option FieldType}
    (hy : plainFor y = true) (hw : ws = Cond.code y cc maxL ret :: ws')
    (body : ∀ p e s m args below meth c s₁, BodyLoose p l y (headSpec ws rm) cc maxL ret e s m args below meth c s₁ → c.maxLocals = maxL → Pc args s →
      W p l e (headSpec ws rm).room s m args below meth c s.heap [] 0 0 (MQ below Qc args s mc ms free) (entryFrame m args maxL)) : Met l y ws rm Pc Qc mc ms free := by
  refine MetFree.of_bodySF (code := cc) (maxLocals := maxL) (ret := ret) hy ?_ ?_
  · intro args s m h hn
    obtain ⟨meth, c, h1, h2, h3, h4, h5, h6, -, -⟩ := Cond.code_spec hn (atoms_spec (ws := ws) h _ (by rw [hw]; exact List.mem_cons_self))
    exact ⟨meth, c, h1, h2, h3, h4, h5, h6⟩
  · intro p e s m args below meth c s₁ B hml hP _
    have hh0 : s₁.heap = s.heap := by rw [B.state]; rfl
    obtain ⟨t, a1, o, b1, b2, b3⟩ := body p e s m args below meth c s₁ B hml hP s₁ hh0 (Stand.of_body B)
    exact ⟨t, o, a1, b1, b2, ⟨b3.1, b3.2⟩⟩
theorem pv_mt {G : pv_G} {M : pv_Mth} {d mc ms : Nat} {as : List Value} {t : pv_T} {I : pv_I} {L : pv_L} {Rf : pv_R} {Q : pv_Q} (hp : plainFor M.1 = true) (ls : List Value) (hls : pv_ent as ++ List.replicate (M.2.2.1 - (pv_ent as).length) (.retAddr 0) = ls) (hn : (pv_ent as).length ≤ M.2.2.1)
    (h : pv_V G M d mc ms Q mc ms 0 ls [] t I L Rf) : pv_Mt G M d mc ms as t I L Rf Q := by
  intro l
  refine pv_ofW (cc := M.2.1) (maxL := M.2.2.1) (ret := M.2.2.2) hp rfl ?_
  intro p e s m args below meth c s₁ B hml hv
  obtain ⟨rfl, hRep, hExt⟩ := hv
  have hts : ∀ w ∈ lw_g, w.before ((as.map (pv_v G)).toArray) s = true := fun w hw => atoms_spec B.pre w (List.mem_cons_of_mem _ hw)
  have hl := lv_entry (as.map (pv_v G)) (n := M.2.2.1) (by rw [pv_ent_len]; exact hn)
  rw [lg_entry_eq]
  generalize (lg_sl (as.map (pv_v G)) ++ List.replicate (M.2.2.1 - (lg_sl (as.map (pv_v G))).length) Slot.unset).toArray = lsA at hl ⊢
  refine h _ p l e s m _ below meth c _ s.heap [] 0 0 lsA ⟨B.exec, B.bytes, B.returns, hml, findClass_of_methodNamed B.named, hts, B.notSynchronized, (name_of_methodNamed B.named B.method).1, hExt, Nat.le_refl _, Nat.le_refl _, Nat.le_refl _, Nat.le_refl _⟩ ?_ hRep va_S.rf ?_ (by omega) (by omega)
  · intro v t1 I1 L1 R1 H locs pc lsB hQ hR hS hret
    have hq : ∀ u : State, u.heap = H → s.WarmedH u.vm → pv_Post G Q ((as.map (pv_v G)).toArray) s (.returned (v.map (pv_v G))) u := by
      intro u hu hW
      exact ⟨⟨v, t1, I1, L1, R1, rfl, hQ, by rw [hu]; exact hR.moved hW.alike⟩, hS.F hu⟩
    rcases hret with ⟨x, ty, rfl, hr, hn, hd⟩ | ⟨x, rfl, hr, hd⟩ | ⟨x, ty, rfl, hx, hr, hty, hd⟩ | ⟨rfl, hr, hd⟩
    · exact W.zret B.exec B.bytes (B.returns.trans hr) hn hq hS.2.2 hd B.notSynchronized
    · exact W.lret B.exec B.bytes (B.returns.trans hr) hq hS.2.2 hd B.notSynchronized
    · refine W.aret B.exec B.bytes (B.returns.trans hr) hty ?_ hq hS.2.2 hd B.notSynchronized
      rcases hx with rfl | ⟨a, rfl⟩
      · exact Or.inl rfl
      · exact Or.inr ⟨_, rfl⟩
    · exact W.vret B.exec B.bytes (B.returns.trans hr) hq hS.2.2 hd B.notSynchronized
  · refine ⟨hl.1, hl.2.1, fun q hq => hl.2.2 q ?_⟩
    obtain ⟨j, w⟩ := q
    obtain ⟨v, -, h2, h3, h4⟩ := (pv_lm_mem G _ 0 j w).mp hq
    rw [Nat.sub_zero, ← hls] at h2
    subst h4
    rcases Nat.lt_or_ge j (pv_ent as).length with q | q
    · rw [List.getElem?_append_left q] at h2
      exact pv_ent_at G as 0 j v (Nat.zero_le _) (by rw [Nat.sub_zero]; exact h2) h3
    · rw [List.getElem?_append_right q] at h2
      have := List.eq_of_mem_replicate (List.mem_of_getElem? h2)
      exact absurd this (h3 0)
