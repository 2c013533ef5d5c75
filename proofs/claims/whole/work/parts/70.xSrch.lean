/-! part 70: the search -/
/-! the search of the class, as a fold over the rows that come to the goal -/
abbrev BE : Type := List Int32 × Int32
def f_bs (bs : BS) (h : BE) : BS := if w_bet h.2 h.1.length bs = true then some h else bs
def x_lt (h g : BE) : Prop := h.2.toInt < g.2.toInt ∨ (h.2.toInt = g.2.toInt ∧ h.1.length < g.1.length)
theorem f_lt (h b : BE) : w_bet h.2 h.1.length (some b) = true ↔ x_lt h b := by
  unfold w_bet x_lt
  simp only [Bool.or_eq_true, Bool.and_eq_true, decide_eq_true_eq, Int32.lt_iff_toInt_lt, ← Int32.toInt_inj]
theorem f_lt1 {h b : BE} (g : x_lt h b) : f_bs (some b) h = some h := if_pos ((f_lt h b).mpr g)
theorem f_lt0 {h b : BE} (g : ¬ x_lt h b) : f_bs (some b) h = some b := if_neg (fun q => g ((f_lt h b).mp q))
theorem x_fnone (h : BE) : f_bs none h = some h := rfl
theorem x_lt.tr {a b c : BE} (h : x_lt a b) (g : ¬ x_lt c b) : x_lt a c := by unfold x_lt at *; omega
theorem x_lt.no {a b c : BE} (h : ¬ x_lt a b) (g : ¬ x_lt b c) : ¬ x_lt a c := by unfold x_lt at *; omega
theorem x_lt.ir (a : BE) : ¬ x_lt a a := by unfold x_lt; omega
/-- after a row none of which is better the best stays -/
theorem f_stay : ∀ (l : List BE) (b : BE), (∀ x ∈ l, ¬ x_lt x b) → l.foldl f_bs (some b) = some b
  | [], _, _ => rfl
  | x :: l, b, h => by
    rw [List.foldl_cons, f_lt0 (h x (List.mem_cons_self ..))]
    exact f_stay l b (fun y hy => h y (List.mem_cons_of_mem _ hy))
theorem f_first : ∀ (l1 l2 : List BE) (b : BE) (bs : BS), (∀ x ∈ l1, x_lt b x) → (∀ x ∈ l2, ¬ x_lt x b) → (∀ x, bs = some x → x_lt b x) → (l1 ++ b :: l2).foldl f_bs bs = some b
  | [], l2, b, bs, _, h2, h3 => by
    rw [List.nil_append, List.foldl_cons]
    cases bs with
    | none => rw [x_fnone]; exact f_stay l2 b h2
    | some x => rw [f_lt1 (h3 x rfl)]; exact f_stay l2 b h2
  | x :: l1, l2, b, bs, h1, h2, h3 => by
    rw [List.cons_append, List.foldl_cons]
    refine f_first l1 l2 b _ (fun y hy => h1 y (List.mem_cons_of_mem _ hy)) h2 (fun y hy => ?_)
    cases bs with
    | none => rw [x_fnone] at hy; cases hy; exact h1 x (List.mem_cons_self ..)
    | some z =>
      by_cases g : x_lt x z
      · rw [f_lt1 g] at hy; cases hy; exact h1 x (List.mem_cons_self ..)
      · rw [f_lt0 g] at hy; cases hy; exact h3 _ rfl
theorem f_dec : ∀ (l : List BE), l ≠ [] → ∃ l1 b l2, l = l1 ++ b :: l2 ∧ (∀ x ∈ l1, x_lt b x) ∧ (∀ x ∈ l2, ¬ x_lt x b)
  | [], h => absurd rfl h
  | x :: l, _ => by
    by_cases hl : l = []
    · subst hl
      exact ⟨[], x, [], rfl, fun _ h => (List.not_mem_nil h).elim, fun _ h => (List.not_mem_nil h).elim⟩
    · obtain ⟨l1, b, l2, e, h1, h2⟩ := f_dec l hl
      by_cases hb : x_lt b x
      · refine ⟨x :: l1, b, l2, by rw [e]; rfl, fun y hy => ?_, h2⟩
        rcases List.mem_cons.mp hy with r | r
        · rw [r]; exact hb
        · exact h1 y r
      · refine ⟨[], x, l, rfl, fun _ h => (List.not_mem_nil h).elim, fun y hy => ?_⟩
        rw [e] at hy
        rcases List.mem_append.mp hy with r | r
        · intro h
          exact hb ((h1 y r).tr (fun g => x_lt.ir x (by have := h1 y r; unfold x_lt at *; omega)))
        · rcases List.mem_cons.mp r with r | r
          · rw [r]; exact hb
          · exact x_lt.no (h2 y r) hb
/-- what is left out may be left out, if something better than it is there -/
theorem f_filter (l : List BE) (P : BE → Bool) (h : ∀ x ∈ l, P x = false → ∃ y ∈ l, x_lt y x) : (l.filter P).foldl f_bs none = l.foldl f_bs none := by
  by_cases hl : l = []
  · subst hl; rfl
  · obtain ⟨l1, b, l2, e, h1, h2⟩ := f_dec l hl
    have hb : P b = true := by
      cases hp : P b with
      | true => rfl
      | false =>
        obtain ⟨y, hy, hlt⟩ := h b (by rw [e]; simp) hp
        rw [e] at hy
        rcases List.mem_append.mp hy with r | r
        · exact absurd (h1 y r) (by unfold x_lt at *; omega)
        · rcases List.mem_cons.mp r with r | r
          · rw [r] at hlt; exact absurd hlt (x_lt.ir b)
          · exact absurd hlt (h2 y r)
    have e1 : l.foldl f_bs none = some b := by rw [e]; exact f_first l1 l2 b none h1 h2 (fun _ h => by cases h)
    have e2 : (l.filter P).foldl f_bs none = some b := by
      rw [e, List.filter_append, List.filter_cons_of_pos hb]
      exact f_first _ _ b none (fun x hx => h1 x (List.mem_filter.mp hx).1) (fun x hx => h2 x (List.mem_filter.mp hx).1) (fun _ h => by cases h)
    rw [e1, e2]

/-- all rows of so many steps at most that come to the goal, in their order -/
def w_hit (T : ML → Bool) (c : Int32 → Int32) : Nat → List Int32 → Int32 → ML → List BE
  | 0, w, so, bg => if T bg = true then [(w, so)] else []
  | m + 1, w, so, bg => (if T bg = true then [(w, so)] else []) ++ (w_hit T c m (w ++ [0]) (so + c 0) (bg.map (s_stp 0)) ++ (w_hit T c m (w ++ [1]) (so + c 1) (bg.map (s_stp 1)) ++ w_hit T c m (w ++ [2]) (so + c 2) (bg.map (s_stp 2))))
/-- whether a step only takes back the one ahead of it -/
def w_und (w : List Int32) (s : Int32) : Bool := match w.getLast? with
  | none => false
  | some l => if s = 2 then decide (l = 2) else decide (s + l = 1)
def x_hit (T : ML → Bool) (c : Int32 → Int32) : Nat → List Int32 → Int32 → ML → List BE
  | 0, w, so, bg => if T bg = true then [(w, so)] else []
  | m + 1, w, so, bg => (if T bg = true then [(w, so)] else []) ++ ((if w_und w 0 = true then [] else x_hit T c m (w ++ [0]) (so + c 0) (bg.map (s_stp 0))) ++ ((if w_und w 1 = true then [] else x_hit T c m (w ++ [1]) (so + c 1) (bg.map (s_stp 1))) ++ (if w_und w 2 = true then [] else x_hit T c m (w ++ [2]) (so + c 2) (bg.map (s_stp 2)))))
/-- no step takes back the one ahead of it -/
def w_nou (r : Int32 → Bool) : List Int32 → Bool
  | [] => true
  | s :: l => !(r s) && w_nou (fun x => w_und [s] x) l
theorem w_und_1 (w : List Int32) (s x : Int32) : w_und (w ++ [s]) x = w_und [s] x := by unfold w_und; rw [List.getLast?_append]; rfl
def w_P (n : Nat) (r : Int32 → Bool) (h : BE) : Bool := w_nou r (h.1.drop n)
theorem w_hit_w {T : ML → Bool} {c : Int32 → Int32} : ∀ (m : Nat) (w : List Int32) (so : Int32) (bg : ML) (h : BE), h ∈ w_hit T c m w so bg → ∃ l, h.1 = w ++ l
  | 0, w, so, bg, h, hm => by
    rw [w_hit] at hm
    split at hm
    · rcases List.mem_singleton.mp hm with rfl; exact ⟨[], (List.append_nil w).symm⟩
    · cases hm
  | m + 1, w, so, bg, h, hm => by
    rw [w_hit] at hm
    rcases List.mem_append.mp hm with hm | hm
    · split at hm
      · rcases List.mem_singleton.mp hm with rfl; exact ⟨[], (List.append_nil w).symm⟩
      · cases hm
    · rcases List.mem_append.mp hm with hm | hm
      · obtain ⟨l, e⟩ := w_hit_w m _ _ _ h hm; exact ⟨0 :: l, by rw [e, List.append_assoc]; rfl⟩
      · rcases List.mem_append.mp hm with hm | hm
        · obtain ⟨l, e⟩ := w_hit_w m _ _ _ h hm; exact ⟨1 :: l, by rw [e, List.append_assoc]; rfl⟩
        · obtain ⟨l, e⟩ := w_hit_w m _ _ _ h hm; exact ⟨2 :: l, by rw [e, List.append_assoc]; rfl⟩
theorem w_P_app {w l : List Int32} {s : Int32} {r : Int32 → Bool} (hr : r s = false) (h : BE) (e : h.1 = w ++ [s] ++ l) : w_P w.length r h = w_P (w ++ [s]).length (w_und (w ++ [s])) h := by
  unfold w_P
  rw [e, List.append_assoc, List.drop_left, ← List.append_assoc, List.drop_left]
  show (!(r s) && w_nou (fun x => w_und [s] x) l) = _
  rw [hr, Bool.not_false, Bool.true_and]
  congr 1
  funext x
  exact (w_und_1 w s x).symm
theorem w_P_f {w l : List Int32} {s : Int32} {r : Int32 → Bool} (hr : r s = true) (h : BE) (e : h.1 = w ++ [s] ++ l) : w_P w.length r h = false := by
  unfold w_P
  rw [e, List.append_assoc, List.drop_left]
  show (!(r s) && w_nou (fun x => w_und [s] x) l) = _
  rw [hr]; rfl
theorem w_hit_child {T : ML → Bool} {c : Int32 → Int32} {m : Nat} {w : List Int32} {so : Int32} {bg : ML} {s : Int32}
    (ih : x_hit T c m (w ++ [s]) (so + c s) (bg.map (s_stp s)) = (w_hit T c m (w ++ [s]) (so + c s) (bg.map (s_stp s))).filter (w_P (w ++ [s]).length (w_und (w ++ [s])))) :
    (if w_und w s = true then [] else x_hit T c m (w ++ [s]) (so + c s) (bg.map (s_stp s))) = (w_hit T c m (w ++ [s]) (so + c s) (bg.map (s_stp s))).filter (w_P w.length (w_und w)) := by
  cases hu : w_und w s with
  | true =>
    rw [if_pos rfl]; symm
    rw [List.filter_eq_nil_iff]
    intro h hm
    obtain ⟨l, e⟩ := w_hit_w m _ _ _ h hm
    rw [w_P_f hu h e]; decide
  | false =>
    rw [if_neg (by decide), ih]
    refine List.filter_congr (fun h hm => ?_)
    obtain ⟨l, e⟩ := w_hit_w m _ _ _ h hm
    exact (w_P_app hu h e).symm
theorem x_hit_eq {T : ML → Bool} {c : Int32 → Int32} : ∀ (m : Nat) (w : List Int32) (so : Int32) (bg : ML), x_hit T c m w so bg = (w_hit T c m w so bg).filter (w_P w.length (w_und w))
  | 0, w, so, bg => by
    rw [x_hit, w_hit]
    split
    · rw [List.filter_cons_of_pos (by unfold w_P; rw [List.drop_length]; rfl)]; rfl
    · rfl
  | m + 1, w, so, bg => by
    have e0 : (if T bg = true then [(w, so)] else []) = (if T bg = true then [(w, so)] else []).filter (w_P w.length (w_und w)) := by
      split
      · rw [List.filter_cons_of_pos (by unfold w_P; rw [List.drop_length]; rfl)]; rfl
      · rfl
    rw [x_hit, w_hit, List.filter_append, List.filter_append, List.filter_append, ← e0, ← w_hit_child (x_hit_eq m _ _ _), ← w_hit_child (x_hit_eq m _ _ _), ← w_hit_child (x_hit_eq m _ _ _)]

/-- the cost of a row, and where it comes to -/
def w_ct (c : Int32 → Int32) (so : Int32) (l : List Int32) : Int32 := l.foldl (fun s x => s + c x) so
def w_rn (bg : ML) (l : List Int32) : ML := l.foldl (fun b s => b.map (s_stp s)) bg
def w_stl (l : List Int32) : Prop := ∀ x ∈ l, x = 0 ∨ x = 1 ∨ x = 2
theorem w_hit_mem {T : ML → Bool} {c : Int32 → Int32} : ∀ (m : Nat) (w : List Int32) (so : Int32) (bg : ML) (h : BE), h ∈ w_hit T c m w so bg ↔ ∃ l, w_stl l ∧ l.length ≤ m ∧ T (w_rn bg l) = true ∧ h = (w ++ l, w_ct c so l)
  | 0, w, so, bg, h => by
    rw [w_hit]
    constructor
    · intro hm
      split at hm
      · next ht => rcases List.mem_singleton.mp hm with rfl; exact ⟨[], fun _ hx => (List.not_mem_nil hx).elim, Nat.le_refl _, ht, by rw [List.append_nil]; rfl⟩
      · cases hm
    · rintro ⟨l, _, hl, ht, e⟩
      cases l with
      | nil => rw [if_pos (show T bg = true from ht), e, List.append_nil]; exact List.mem_singleton.mpr rfl
      | cons x l => exact absurd hl (Nat.not_succ_le_zero _)
  | m + 1, w, so, bg, h => by
    rw [w_hit, List.mem_append, List.mem_append, List.mem_append, w_hit_mem m, w_hit_mem m, w_hit_mem m]
    constructor
    · rintro (hm | ⟨l, a, b, t, e⟩ | ⟨l, a, b, t, e⟩ | ⟨l, a, b, t, e⟩)
      · split at hm
        · next ht => rcases List.mem_singleton.mp hm with rfl; exact ⟨[], fun _ hx => (List.not_mem_nil hx).elim, Nat.zero_le _, ht, by rw [List.append_nil]; rfl⟩
        · cases hm
      · exact ⟨0 :: l, fun x hx => (List.mem_cons.mp hx).elim (fun r => Or.inl r) (a x), Nat.succ_le_succ b, t, by rw [e, List.append_assoc]; rfl⟩
      · exact ⟨1 :: l, fun x hx => (List.mem_cons.mp hx).elim (fun r => Or.inr (Or.inl r)) (a x), Nat.succ_le_succ b, t, by rw [e, List.append_assoc]; rfl⟩
      · exact ⟨2 :: l, fun x hx => (List.mem_cons.mp hx).elim (fun r => Or.inr (Or.inr r)) (a x), Nat.succ_le_succ b, t, by rw [e, List.append_assoc]; rfl⟩
    · rintro ⟨l, a, b, t, e⟩
      cases l with
      | nil => refine Or.inl ?_; rw [if_pos (show T bg = true from t), e, List.append_nil]; exact List.mem_singleton.mpr rfl
      | cons x l =>
        have al : w_stl l := fun y hy => a y (List.mem_cons_of_mem _ hy)
        have bl : l.length ≤ m := Nat.le_of_succ_le_succ b
        rcases a x (List.mem_cons_self ..) with rfl | rfl | rfl
        · exact Or.inr (Or.inl ⟨l, al, bl, t, by rw [e, List.append_assoc]; rfl⟩)
        · exact Or.inr (Or.inr (Or.inl ⟨l, al, bl, t, by rw [e, List.append_assoc]; rfl⟩))
        · exact Or.inr (Or.inr (Or.inr ⟨l, al, bl, t, by rw [e, List.append_assoc]; rfl⟩))
/-! what the class leaves out is never the best -/
def gd (b : Int) (x : Int64 × Int64) : Prop := 0 ≤ x.2.toInt ∧ x.1.toInt.natAbs + x.2.toInt ≤ b ∧ (x.2.toInt = 0 → x.1.toInt = 1) ∧ Int.gcd x.1.toInt x.2.toInt = 1
theorem gd_0 {b : Int} {x : Int64 × Int64} (h : gd b x) (h0 : x.1.toInt = 0) : x.2.toInt = 1 := by
  have g := h.2.2.2
  rw [h0, Int.gcd_zero_left] at g
  have := h.1
  omega
theorem l64 {a : Int} (h : -9223372036854775808 ≤ a ∧ a < 9223372036854775808) : a.bmod (2 ^ 64) = a := by
  rw [Int.bmod_eq_of_le] <;> omega
theorem s_abs_i {x : Int64} {b : Int} (h : x.toInt.natAbs ≤ b) (hb : b ≤ 2 ^ 60) : (s_abs x).toInt = x.toInt.natAbs := by
  unfold s_abs
  split
  · next g => rw [Int64.lt_iff_toInt_lt] at g; have : (0 : Int64).toInt = 0 := by decide
              omega
  · next g => rw [Int64.lt_iff_toInt_lt] at g; have : (0 : Int64).toInt = 0 := by decide
              rw [Int64.toInt_neg, l64 (by omega)]; omega
theorem gd_add {b : Int} {p q : Int64} (h : gd b (p, q)) (hb : b ≤ 2 ^ 60) : (p + q).toInt = p.toInt + q.toInt ∧ gd (2 * b) (p + q, q) := by
  obtain ⟨h1, h2, h3, h4⟩ := h
  have e : (p + q).toInt = p.toInt + q.toInt := by rw [Int64.toInt_add, l64 (by simp only at *; omega)]
  refine ⟨e, h1, ?_, fun h0 => ?_, ?_⟩
  · show (p + q).toInt.natAbs + q.toInt ≤ 2 * b
    simp only at *; omega
  · show (p + q).toInt = 1
    simp only at *; have := h3 h0; omega
  · show Int.gcd (p + q).toInt q.toInt = 1
    rw [e]; simp only at *; rw [← h4]; simp
theorem gd_sub {b : Int} {p q : Int64} (h : gd b (p, q)) (hb : b ≤ 2 ^ 60) : (p - q).toInt = p.toInt - q.toInt ∧ gd (2 * b) (p - q, q) := by
  obtain ⟨h1, h2, h3, h4⟩ := h
  have e : (p - q).toInt = p.toInt - q.toInt := by rw [Int64.toInt_sub, l64 (by simp only at *; omega)]
  refine ⟨e, h1, ?_, fun h0 => ?_, ?_⟩
  · show (p - q).toInt.natAbs + q.toInt ≤ 2 * b
    simp only at *; omega
  · show (p - q).toInt = 1
    simp only at *; have := h3 h0; omega
  · show Int.gcd (p - q).toInt q.toInt = 1
    rw [e]; simp only at *; rw [← h4]; simp
theorem i0 {x : Int64} (h : x.toInt = 0) : x = 0 := by rw [← Int64.toInt_inj, h]; decide
theorem i1 {x : Int64} (h : x.toInt = 1) : x = 1 := by rw [← Int64.toInt_inj, h]; decide
theorem gd_on {b : Int} {p q : Int64} (h : gd b (p, q)) (hb : b ≤ 2 ^ 60) : gd (2 * b) (s_stp 2 (p, q)) ∧ s_stp 2 (s_stp 2 (p, q)) = (p, q) := by
  have hg := h
  obtain ⟨h1, h2, h3, h4⟩ := h
  simp only at h1 h2 h3 h4
  have z : (0 : Int64).toInt = 0 := by decide
  by_cases hp : p.toInt = 0
  · have hq := i1 (gd_0 hg hp)
    have hp := i0 hp
    subst hp; subst hq
    have h5 : (1 : Int64).toInt = 1 := by decide
    refine ⟨⟨by decide, ?_, by decide, by decide⟩, by decide⟩
    show (1 : Int64).toInt.natAbs + (0 : Int64).toInt ≤ 2 * b
    rw [h5, z]; rw [h5] at h2; omega
  · have ha := s_abs_i (x := p) (b := b) (by omega) hb
    have hp0 : ¬ p = 0 := fun r => hp (by rw [r]; decide)
    by_cases hs : 0 < p.toInt
    · have e : s_stp 2 (p, q) = (-q, p) := by
        unfold s_stp s_stepP s_stepQ
        rw [if_neg (by decide), if_neg (by decide), if_neg hp0, if_pos (by rw [Int64.lt_iff_toInt_lt, z]; exact hs), if_pos rfl]
        refine Prod.ext rfl ?_
        show s_abs p = p
        rw [← Int64.toInt_inj, ha]; omega
      have hn : (-q).toInt = -q.toInt := by rw [Int64.toInt_neg, l64 (by omega)]
      rw [e]
      refine ⟨⟨by show 0 ≤ p.toInt; omega, by show (-q).toInt.natAbs + p.toInt ≤ 2 * b; omega, fun r => absurd r hp, by show Int.gcd (-q).toInt p.toInt = 1; rw [hn, Int.neg_gcd, Int.gcd_comm]; exact h4⟩, ?_⟩
      unfold s_stp s_stepP s_stepQ
      show ((if (2 : Int32) = 0 then -q + p else if (2 : Int32) = 1 then -q - p else if -q = 0 then 1 else if 0 < -q then -p else p), (if (2 : Int32) = 2 then s_abs (-q) else p)) = (p, q)
      rw [if_neg (by decide), if_neg (by decide), if_pos rfl]
      have hab := s_abs_i (x := -q) (b := b) (by omega) hb
      refine Prod.ext ?_ (by show s_abs (-q) = q; rw [← Int64.toInt_inj, hab]; omega)
      show (if -q = 0 then 1 else if 0 < -q then -p else p) = p
      split
      · next g => rw [← Int64.toInt_inj, hn, z] at g; exact (i1 (h3 (by omega))).symm
      · rw [if_neg (by rw [Int64.lt_iff_toInt_lt, z]; omega)]
    · have e : s_stp 2 (p, q) = (q, -p) := by
        unfold s_stp s_stepP s_stepQ
        rw [if_neg (by decide), if_neg (by decide), if_neg hp0, if_neg (by rw [Int64.lt_iff_toInt_lt, z]; exact hs), if_pos rfl]
        refine Prod.ext rfl ?_
        show s_abs p = -p
        unfold s_abs
        rw [if_neg (by rw [Int64.lt_iff_toInt_lt, z]; exact hs)]
      have hn : (-p).toInt = -p.toInt := by rw [Int64.toInt_neg, l64 (by omega)]
      have hq : ¬ q.toInt = 0 := fun r => by have := h3 r; omega
      have hq0 : ¬ q = 0 := fun r => hq (by rw [r]; decide)
      rw [e]
      refine ⟨⟨by show 0 ≤ (-p).toInt; omega, by show q.toInt.natAbs + (-p).toInt ≤ 2 * b; omega, fun r => absurd r (by show ¬ (-p).toInt = 0; omega), by show Int.gcd q.toInt (-p).toInt = 1; rw [hn, Int.gcd_neg, Int.gcd_comm]; exact h4⟩, ?_⟩
      unfold s_stp s_stepP s_stepQ
      show ((if (2 : Int32) = 0 then q + -p else if (2 : Int32) = 1 then q - -p else if q = 0 then 1 else if 0 < q then - -p else -p), (if (2 : Int32) = 2 then s_abs q else -p)) = (p, q)
      rw [if_neg (by decide), if_neg (by decide), if_pos rfl, if_neg hq0, if_pos (by rw [Int64.lt_iff_toInt_lt, z]; omega), Int64.neg_neg]
      have hab := s_abs_i (x := q) (b := b) (by omega) hb
      refine Prod.ext rfl (by show s_abs q = q; rw [← Int64.toInt_inj, hab]; omega)
theorem stp_0 (p q : Int64) : s_stp 0 (p, q) = (p + q, q) := rfl
theorem stp_1 (p q : Int64) : s_stp 1 (p, q) = (p - q, q) := by
  unfold s_stp s_stepP s_stepQ
  rw [if_neg (by decide), if_pos rfl, if_neg (by decide)]
theorem gd_stp {b : Int} {x : Int64 × Int64} {s : Int32} (hs : s = 0 ∨ s = 1 ∨ s = 2) (h : gd b x) (hb : b ≤ 2 ^ 60) : gd (2 * b) (s_stp s x) := by
  obtain ⟨p, q⟩ := x
  rcases hs with rfl | rfl | rfl
  · rw [stp_0]; exact (gd_add h hb).2
  · rw [stp_1]; exact (gd_sub h hb).2
  · exact (gd_on h hb).1
theorem gd_und {b : Int} {x : Int64 × Int64} {s r : Int32} (hs : s = 0 ∨ s = 1 ∨ s = 2) (hr : r = 0 ∨ r = 1 ∨ r = 2) (hu : w_und [s] r = true) (h : gd b x) (hb : b ≤ 2 ^ 60) : s_stp r (s_stp s x) = x := by
  obtain ⟨p, q⟩ := x
  rcases hs with rfl | rfl | rfl <;> rcases hr with rfl | rfl | rfl <;> first | exact absurd hu (by decide) | skip
  · rw [stp_0, stp_1]; exact Prod.ext (by grind) rfl
  · rw [stp_1, stp_0]; exact Prod.ext (by grind) rfl
  · exact (gd_on h hb).2
def gds (b : Int) (bg : ML) : Prop := ∀ x ∈ bg, gd b x
theorem gds_stp {b : Int} {bg : ML} {s : Int32} (hs : s = 0 ∨ s = 1 ∨ s = 2) (h : gds b bg) (hb : b ≤ 2 ^ 60) : gds (2 * b) (bg.map (s_stp s)) := by
  intro x hx
  obtain ⟨y, hy, rfl⟩ := List.mem_map.mp hx
  exact gd_stp hs (h y hy) hb
theorem gds_und {b : Int} {bg : ML} {s r : Int32} (hs : s = 0 ∨ s = 1 ∨ s = 2) (hr : r = 0 ∨ r = 1 ∨ r = 2) (hu : w_und [s] r = true) (h : gds b bg) (hb : b ≤ 2 ^ 60) : (bg.map (s_stp s)).map (s_stp r) = bg := by
  rw [List.map_map]
  refine (List.map_congr_left (fun x hx => ?_)).trans (List.map_id bg)
  exact gd_und hs hr hu (h x hx) hb
theorem w_rn_app (bg : ML) (l k : List Int32) : w_rn bg (l ++ k) = w_rn (w_rn bg l) k := List.foldl_append ..
/-- a row with a step taken back: the row without the two comes to the same -/
theorem w_nou_f {r : Int32 → Bool} : ∀ (l : List Int32), w_nou r l = false → (∀ x, r x = true → x = x → True) → (∃ s k, l = s :: k ∧ r s = true) ∨ ∃ u s t k, l = u ++ s :: t :: k ∧ w_und [s] t = true
  | [], h, _ => by cases h
  | s :: l, h, _ => by
    rw [w_nou] at h
    cases hr : r s with
    | true => exact Or.inl ⟨s, l, rfl, hr⟩
    | false =>
      rw [hr, Bool.not_false, Bool.true_and] at h
      rcases w_nou_f l h (fun _ _ _ => trivial) with ⟨t, k, e, g⟩ | ⟨u, x, t, k, e, g⟩
      · exact Or.inr ⟨[], s, t, k, by rw [e]; rfl, g⟩
      · exact Or.inr ⟨s :: u, x, t, k, by rw [e]; rfl, g⟩
def c_ok (c : Int32 → Int32) : Prop := ∀ s, 1 ≤ (c s).toInt ∧ (c s).toInt ≤ 9
def w_cti (c : Int32 → Int32) : List Int32 → Int
  | [] => 0
  | s :: l => (c s).toInt + w_cti c l
theorem w_cti_b {c : Int32 → Int32} (hc : c_ok c) : ∀ l, (l.length : Int) ≤ w_cti c l ∧ w_cti c l ≤ 9 * l.length
  | [] => ⟨Int.le_refl _, Int.le_refl _⟩
  | s :: l => by
    have h := w_cti_b hc l
    have g := hc s
    rw [w_cti, List.length_cons]
    omega
theorem i32a {a b : Int32} (h0 : 0 ≤ a.toInt) (h1 : a.toInt ≤ 1000) (h2 : 0 ≤ b.toInt) (h3 : b.toInt ≤ 1000) : (a + b).toInt = a.toInt + b.toInt := by
  rw [Int32.toInt_add, Int.bmod_eq_of_le] <;> omega
theorem w_ct_i {c : Int32 → Int32} (hc : c_ok c) : ∀ (l : List Int32) (so : Int32), 0 ≤ so.toInt → so.toInt + 9 * l.length ≤ 1000 → (w_ct c so l).toInt = so.toInt + w_cti c l
  | [], so, _, _ => by rw [w_cti]; exact (Int.add_zero _).symm
  | s :: l, so, h0, h => by
    have g := hc s
    rw [List.length_cons] at h
    have e := i32a (a := so) (b := c s) h0 (by omega) (by omega) (by omega)
    show (w_ct c (so + c s) l).toInt = _
    rw [w_ct_i hc l _ (by omega) (by omega), e, w_cti]
    omega
theorem w_cti_app (c : Int32 → Int32) : ∀ (l k : List Int32), w_cti c (l ++ k) = w_cti c l + w_cti c k
  | [], k => by rw [List.nil_append, w_cti, Int.zero_add]
  | s :: l, k => by rw [List.cons_append, w_cti, w_cti, w_cti_app c l k]; omega
theorem gds_mono {a b : Int} {bg : ML} (h : gds a bg) (g : a ≤ b) : gds b bg := fun x hx => ⟨(h x hx).1, by have := (h x hx).2.1; omega, (h x hx).2.2⟩
theorem gds_rn : ∀ (l : List Int32) (n : Nat) (bg : ML), w_stl l → gds (2 ^ n) bg → n + l.length ≤ 60 → gds (2 ^ (n + l.length)) (w_rn bg l)
  | [], n, bg, _, h, _ => h
  | s :: l, n, bg, hs, h, hn => by
    rw [List.length_cons] at hn ⊢
    have hb : (2 : Int) ^ n ≤ 2 ^ 60 := by
      have := Nat.pow_le_pow_right (n := 2) (by decide) (show n ≤ 60 by omega)
      exact_mod_cast this
    have g := gds_stp (hs s (List.mem_cons_self ..)) h hb
    rw [show n + (l.length + 1) = n + 1 + l.length by omega]
    exact gds_rn l (n + 1) _ (fun x hx => hs x (List.mem_cons_of_mem _ hx)) (by rw [Int.pow_succ, Int.mul_comm]; exact g) (by omega)
theorem x_hit_fold {T : ML → Bool} {c : Int32 → Int32} (hc : c_ok c) (m : Nat) (bg : ML) (hm : m ≤ 15) (hg : gds (2 ^ 42) bg) : (x_hit T c m [] 0 bg).foldl f_bs none = (w_hit T c m [] 0 bg).foldl f_bs none := by
  rw [x_hit_eq]
  refine f_filter _ _ (fun h hm1 hP => ?_)
  obtain ⟨l, hs, hl, ht, e⟩ := (w_hit_mem m [] 0 bg h).mp hm1
  have e1 : h.1 = l := by rw [e]; rfl
  unfold w_P at hP
  rw [e1] at hP
  rcases w_nou_f l hP (fun _ _ _ => trivial) with ⟨s, k, _, hu⟩ | ⟨u, s, t, k, el, hu⟩
  · cases hu
  · have hss := hs s (by rw [el]; simp)
    have hst := hs t (by rw [el]; simp)
    have hsu : w_stl u := fun x hx => hs x (by rw [el]; simp [hx])
    have hsk : w_stl k := fun x hx => hs x (by rw [el]; simp [hx])
    have hlen : l.length = u.length + k.length + 2 := by rw [el]; simp only [List.length_append, List.length_cons]; omega
    have hgu := gds_rn u 42 bg hsu hg (by omega)
    have hb : (2 : Int) ^ (42 + u.length) ≤ 2 ^ 60 := by
      have := Nat.pow_le_pow_right (n := 2) (by decide) (show 42 + u.length ≤ 60 by omega)
      exact_mod_cast this
    have hrun : w_rn bg (u ++ k) = w_rn bg l := by
      rw [el, w_rn_app, w_rn_app]
      show w_rn (w_rn bg u) k = w_rn (((w_rn bg u).map (s_stp s)).map (s_stp t)) k
      rw [gds_und hss hst hu hgu hb]
    refine ⟨([] ++ (u ++ k), w_ct c 0 (u ++ k)), (w_hit_mem m [] 0 bg _).mpr ⟨u ++ k, ?_, ?_, by rw [hrun]; exact ht, rfl⟩, ?_⟩
    · intro x hx
      rcases List.mem_append.mp hx with r | r
      · exact hsu x r
      · exact hsk x r
    · rw [List.length_append]; omega
    · refine Or.inl ?_
      have z : (0 : Int32).toInt = 0 := by decide
      rw [e]
      show (w_ct c 0 (u ++ k)).toInt < (w_ct c 0 l).toInt
      rw [w_ct_i hc _ _ (by rw [z]; omega) (by rw [List.length_append, z]; omega), w_ct_i hc _ _ (by rw [z]; omega) (by rw [z]; omega), el, w_cti_app, w_cti_app, w_cti, w_cti]
      have g1 := hc s
      have g2 := hc t
      omega
/-! the class's walk -/
def x_wlk (T : ML → Bool) (c : Int32 → Int32) : Nat → List Int32 → Int32 → ML → BS → BS
  | 0, w, so, bg, bs => if w_bet so w.length bs = true then (if T bg = true then some (w, so) else bs) else bs
  | m + 1, w, so, bg, bs => if w_bet so w.length bs = true then (if T bg = true then some (w, so) else
      (fun b1 => (fun b2 => (if w_und w 2 = true then b2 else x_wlk T c m (w ++ [2]) (so + c 2) (bg.map (s_stp 2)) b2)) (if w_und w 1 = true then b1 else x_wlk T c m (w ++ [1]) (so + c 1) (bg.map (s_stp 1)) b1)) (if w_und w 0 = true then bs else x_wlk T c m (w ++ [0]) (so + c 0) (bg.map (s_stp 0)) bs)) else bs
theorem bet_iff (so : Int32) (w : List Int32) (b : BE) : w_bet so w.length (some b) = true ↔ x_lt (w, so) b := by
  unfold w_bet x_lt
  simp only [Bool.or_eq_true, Bool.and_eq_true, decide_eq_true_eq, Int32.lt_iff_toInt_lt, ← Int32.toInt_inj]
theorem f_skip (l : List BE) (w : List Int32) (so : Int32) (bs : BS) (h : ¬ w_bet so w.length bs = true) (hl : ∀ x ∈ l, ¬ x_lt x (w, so)) : l.foldl f_bs bs = bs := by
  cases bs with
  | none => exact absurd rfl h
  | some b =>
    rw [bet_iff] at h
    exact f_stay l b (fun x hx => x_lt.no (hl x hx) h)
theorem x_hit_sub {T : ML → Bool} {c : Int32 → Int32} {m : Nat} {w : List Int32} {so : Int32} {bg : ML} {h : BE} (hm : h ∈ x_hit T c m w so bg) : h ∈ w_hit T c m w so bg := by
  rw [x_hit_eq] at hm
  exact (List.mem_filter.mp hm).1
theorem x_hit_low {T : ML → Bool} {c : Int32 → Int32} (hc : c_ok c) {m : Nat} {w : List Int32} {so : Int32} {bg : ML} (h0 : 0 ≤ so.toInt) (h1 : so.toInt + 9 * m ≤ 1000) {x : BE} (hx : x ∈ x_hit T c m w so bg) : ¬ x_lt x (w, so) := by
  obtain ⟨l, _, hl, _, e⟩ := (w_hit_mem m w so bg x).mp (x_hit_sub hx)
  have hb := w_cti_b hc l
  have hi := w_ct_i hc l so h0 (by omega)
  unfold x_lt
  rw [e, List.length_append]
  show ¬ ((w_ct c so l).toInt < so.toInt ∨ _)
  rw [hi]
  simp only
  omega
theorem x_wlk_eq {T : ML → Bool} {c : Int32 → Int32} (hc : c_ok c) : ∀ (m : Nat) (w : List Int32) (so : Int32) (bg : ML) (bs : BS), 0 ≤ so.toInt → so.toInt + 9 * m ≤ 1000 → x_wlk T c m w so bg bs = (x_hit T c m w so bg).foldl f_bs bs
  | 0, w, so, bg, bs, _, _ => by
    rw [x_wlk, x_hit]
    by_cases ht : T bg = true
    · rw [if_pos ht, if_pos ht, List.foldl_cons, List.foldl_nil]; rfl
    · rw [if_neg ht, if_neg ht, List.foldl_nil]; split <;> rfl
  | m + 1, w, so, bg, bs, h0, h1 => by
    by_cases hbt : w_bet so w.length bs = true
    · have ih : ∀ (s : Int32) (b : BS), (if w_und w s = true then b else x_wlk T c m (w ++ [s]) (so + c s) (bg.map (s_stp s)) b) = (if w_und w s = true then [] else x_hit T c m (w ++ [s]) (so + c s) (bg.map (s_stp s))).foldl f_bs b := by
        intro s b
        split
        · rfl
        · have g := hc s
          have e := i32a (a := so) (b := c s) h0 (by omega) (by omega) (by omega)
          exact x_wlk_eq hc m _ _ _ _ (by omega) (by omega)
      by_cases ht : T bg = true
      · rw [x_wlk, if_pos hbt, if_pos ht]
        have hl : ∀ x ∈ x_hit T c (m + 1) w so bg, ¬ x_lt x (w, so) := fun x hx => x_hit_low hc h0 h1 hx
        rw [x_hit, if_pos ht] at hl ⊢
        rw [List.foldl_append, List.foldl_cons, List.foldl_nil]
        have e1 : f_bs bs (w, so) = some (w, so) := by unfold f_bs; rw [if_pos hbt]
        rw [e1]
        exact (f_stay _ _ (fun x hx => hl x (List.mem_append_right _ hx))).symm
      · rw [x_wlk, if_pos hbt, if_neg ht, x_hit, if_neg ht, List.nil_append, List.foldl_append, List.foldl_append, ← ih, ← ih, ← ih]
    · rw [x_wlk, if_neg hbt]
      exact (f_skip _ w so bs hbt (fun x hx => x_hit_low hc h0 h1 hx)).symm
/-! the reference's searches -/
theorem w_chp_eq (a b : Int64) (c : Int32 → Int32) (T : ML → Bool) (hT : ∀ p q, T [(p, q)] = decide (p = a ∧ q = b)) : ∀ (m : Nat) (w : List Int32) (so : Int32) (p q : Int64) (bs : BS), w_chp a b (c 0) (c 1) (c 2) m w so p q bs = (w_hit T c m w so [(p, q)]).foldl f_bs bs
  | 0, w, so, p, q, bs => by
    rw [w_chp, w_hit, w_b1, hT]
    by_cases h : p = a ∧ q = b
    · rw [if_pos h, if_pos (decide_eq_true h)]; rfl
    · rw [if_neg h, if_neg (fun r => h (of_decide_eq_true r))]; rfl
  | m + 1, w, so, p, q, bs => by
    have e0 : w_b1 a b w so p q bs = (if T [(p, q)] = true then [(w, so)] else []).foldl f_bs bs := by
      rw [w_b1, hT]
      by_cases h : p = a ∧ q = b
      · rw [if_pos h, if_pos (decide_eq_true h)]; rfl
      · rw [if_neg h, if_neg (fun r => h (of_decide_eq_true r))]; rfl
    rw [w_chp, w_hit, List.foldl_append, List.foldl_append, List.foldl_append, e0, w_chp_eq a b c T hT m, w_chp_eq a b c T hT m, w_chp_eq a b c T hT m]
    rfl
def w_telG (T : ML → Bool) : Nat → ML → Option (List Int32)
  | 0, bg => if T bg = true then some [] else none
  | m + 1, bg => match w_telG T m (bg.map (s_stp 0)) with
    | some l => some (0 :: l)
    | none => match w_telG T m (bg.map (s_stp 1)) with
      | some l => some (1 :: l)
      | none => match w_telG T m (bg.map (s_stp 2)) with
        | some l => some (2 :: l)
        | none => none
def w_lstG (T : ML → Bool) (bg : ML) : Nat → Nat → Option (List Int32)
  | 0, _ => none
  | m + 1, n => match w_telG T n bg with
    | some l => some l
    | none => w_lstG T bg m (n + 1)
theorem w_fnd_eq (a b : Int64) (T : ML → Bool) (hT : ∀ p q, T [(p, q)] = decide (p = a ∧ q = b)) : ∀ (m : Nat) (p q : Int64), w_fnd a b m p q = w_telG T m [(p, q)]
  | 0, p, q => by
    rw [w_fnd, w_telG, hT]
    by_cases h : p = a ∧ q = b
    · rw [if_pos h, if_pos (decide_eq_true h)]
    · rw [if_neg h, if_neg (fun r => h (of_decide_eq_true r))]
  | m + 1, p, q => by
    rw [w_fnd, w_telG, w_fnd_eq a b T hT m, w_fnd_eq a b T hT m, w_fnd_eq a b T hT m]
    rfl
theorem w_lst_eq (a b : Int64) (T : ML → Bool) (hT : ∀ p q, T [(p, q)] = decide (p = a ∧ q = b)) : ∀ (m n : Nat), w_lst a b m n = w_lstG T [(0, 1)] m n
  | 0, n => rfl
  | m + 1, n => by rw [w_lst, w_lstG, w_fnd_eq a b T hT, w_lst_eq a b T hT m]; cases w_telG T n [(0, 1)] <;> rfl
/-- one of several numbers is told by its being 0: then it is 0 by 1 -/
def x_th (a b : Int64) (aim : Int32) : Nat → ML → Bool
  | _, [] => true
  | i, x :: l => ((decide (x.1 = a) && decide (x.2 = b)) == decide (Int32.ofNat i = aim)) && x_th a b aim (i + 1) l
theorem x_th_eq {b : Int} (aim : Int32) : ∀ (bg : ML) (i : Nat), gds b bg → x_th 0 1 aim i bg = w_there aim i bg
  | [], i, _ => rfl
  | x :: l, i, h => by
    rw [x_th, w_there, x_th_eq aim l (i + 1) (fun y hy => h y (List.mem_cons_of_mem _ hy))]
    congr 2
    have hx := h x (List.mem_cons_self ..)
    by_cases h0 : x.1 = 0
    · have : x.2 = 1 := i1 (gd_0 hx (by rw [h0]; decide))
      rw [decide_eq_true h0, decide_eq_true this]; rfl
    · rw [decide_eq_false h0]; rfl
theorem w_tel_eq (aim : Int32) : ∀ (m n : Nat) (bg : ML), gds (2 ^ n) bg → n + m ≤ 60 → w_tel aim m bg = w_telG (x_th 0 1 aim 0) m bg
  | 0, n, bg, h, _ => by rw [w_tel, w_telG, x_th_eq aim bg 0 h]
  | m + 1, n, bg, h, hn => by
    have hb : (2 : Int) ^ n ≤ 2 ^ 60 := by
      have := Nat.pow_le_pow_right (n := 2) (by decide) (show n ≤ 60 by omega)
      exact_mod_cast this
    have g : ∀ s : Int32, (s = 0 ∨ s = 1 ∨ s = 2) → w_tel aim m (bg.map (s_stp s)) = w_telG (x_th 0 1 aim 0) m (bg.map (s_stp s)) := fun s hs =>
      w_tel_eq aim m (n + 1) _ (by rw [Int.pow_succ, Int.mul_comm]; exact gds_stp hs h hb) (by omega)
    rw [w_tel, w_telG, g 0 (by decide), g 1 (by decide), g 2 (by decide)]
    cases w_telG (x_th 0 1 aim 0) m (bg.map (s_stp 0)) <;> cases w_telG (x_th 0 1 aim 0) m (bg.map (s_stp 1)) <;> cases w_telG (x_th 0 1 aim 0) m (bg.map (s_stp 2)) <;> rfl
theorem w_bagL_eq (aim : Int32) (bg : ML) (h : gds (2 ^ 42) bg) : ∀ (m n : Nat), m + n ≤ 18 → w_bagL aim bg m n = w_lstG (x_th 0 1 aim 0) bg m n
  | 0, n, _ => rfl
  | m + 1, n, hm => by rw [w_bagL, w_lstG, w_tel_eq aim n 42 bg h (by omega), w_bagL_eq aim bg h m (n + 1) (by omega)]; cases w_telG (x_th 0 1 aim 0) n bg <;> rfl
/-! with every step at 1 the cheapest row is the first of the shortest -/
theorem w_telG_none {T : ML → Bool} : ∀ (m : Nat) (bg : ML), w_telG T m bg = none → ∀ l, w_stl l → l.length = m → ¬ T (w_rn bg l) = true
  | 0, bg, h, l, _, hl => by
    have : l = [] := List.eq_nil_of_length_eq_zero hl
    subst this
    rw [w_telG] at h
    split at h
    · cases h
    · next g => exact g
  | m + 1, bg, h, l, hs, hl => by
    rw [w_telG] at h
    split at h
    · cases h
    · next h0 =>
      split at h
      · cases h
      · next h1 =>
        split at h
        · cases h
        · next h2 =>
          cases l with
          | nil => cases hl
          | cons x l =>
            have hsl : w_stl l := fun y hy => hs y (List.mem_cons_of_mem _ hy)
            have hll : l.length = m := by rw [List.length_cons] at hl; omega
            rcases hs x (List.mem_cons_self ..) with rfl | rfl | rfl
            · exact w_telG_none m _ h0 l hsl hll
            · exact w_telG_none m _ h1 l hsl hll
            · exact w_telG_none m _ h2 l hsl hll
theorem w_telG_some {T : ML → Bool} {c : Int32 → Int32} : ∀ (n m : Nat) (w : List Int32) (so : Int32) (bg : ML) (l : List Int32), n ≤ m → w_telG T n bg = some l → (∀ k, w_stl k → k.length < n → ¬ T (w_rn bg k) = true) → l.length = n ∧ ∃ l1 l2, w_hit T c m w so bg = l1 ++ (w ++ l, w_ct c so l) :: l2 ∧ ∀ x ∈ l1, w.length + n < x.1.length
  | 0, m, w, so, bg, l, _, h, _ => by
    rw [w_telG] at h
    split at h
    · next ht =>
      cases h
      refine ⟨rfl, [], ?_⟩
      cases m with
      | zero => exact ⟨[], by rw [w_hit, if_pos ht, List.append_nil]; rfl, fun _ hx => (List.not_mem_nil hx).elim⟩
      | succ m => exact ⟨_, by rw [w_hit, if_pos ht, List.append_nil]; rfl, fun _ hx => (List.not_mem_nil hx).elim⟩
    · cases h
  | n + 1, 0, w, so, bg, l, hnm, _, _ => absurd hnm (Nat.not_succ_le_zero _)
  | n + 1, m + 1, w, so, bg, l, hnm, h, hsh => by
    have ht : ¬ T bg = true := hsh [] (fun _ hx => (List.not_mem_nil hx).elim) (Nat.zero_lt_succ _)
    have hch : ∀ s : Int32, (s = 0 ∨ s = 1 ∨ s = 2) → ∀ k, w_stl k → k.length < n → ¬ T (w_rn (bg.map (s_stp s)) k) = true := fun s hs k hk hl =>
      hsh (s :: k) (fun x hx => (List.mem_cons.mp hx).elim (fun r => r ▸ hs) (hk x)) (Nat.succ_lt_succ hl)
    have hno : ∀ s : Int32, (s = 0 ∨ s = 1 ∨ s = 2) → w_telG T n (bg.map (s_stp s)) = none → ∀ x ∈ w_hit T c m (w ++ [s]) (so + c s) (bg.map (s_stp s)), w.length + (n + 1) < x.1.length := by
      intro s hs hn x hx
      obtain ⟨k, hk, hl, htk, e⟩ := (w_hit_mem m _ _ _ x).mp hx
      have h1 : ¬ k.length < n := fun r => hch s hs k hk r htk
      have h2 : ¬ k.length = n := fun r => w_telG_none n _ hn k hk r htk
      rw [e]; simp only [List.length_append, List.length_singleton]; omega
    rw [w_telG] at h
    rw [w_hit, if_neg ht, List.nil_append]
    have hmm : n ≤ m := Nat.le_of_succ_le_succ hnm
    split at h
    · next l0 h0 =>
      cases h
      obtain ⟨hl, l1, l2, e, g⟩ := w_telG_some (c := c) n m (w ++ [0]) (so + c 0) _ l0 hmm h0 (hch 0 (by decide))
      refine ⟨by rw [List.length_cons, hl], l1, _, by rw [e, List.append_assoc, List.append_assoc]; rfl, fun x hx => ?_⟩
      have := g x hx
      rw [List.length_append, List.length_singleton] at this
      omega
    · next h0 =>
      split at h
      · next l0 h1 =>
        cases h
        obtain ⟨hl, l1, l2, e, g⟩ := w_telG_some (c := c) n m (w ++ [1]) (so + c 1) _ l0 hmm h1 (hch 1 (by decide))
        refine ⟨by rw [List.length_cons, hl], _ ++ l1, _, by rw [e, List.append_assoc, List.append_assoc, List.append_assoc]; rfl, fun x hx => ?_⟩
        rcases List.mem_append.mp hx with r | r
        · exact hno 0 (by decide) h0 x r
        · have := g x r
          rw [List.length_append, List.length_singleton] at this
          omega
      · next h1 =>
        split at h
        · next l0 h2 =>
          cases h
          obtain ⟨hl, l1, l2, e, g⟩ := w_telG_some (c := c) n m (w ++ [2]) (so + c 2) _ l0 hmm h2 (hch 2 (by decide))
          refine ⟨by rw [List.length_cons, hl], w_hit T c m (w ++ [0]) (so + c 0) (bg.map (s_stp 0)) ++ (w_hit T c m (w ++ [1]) (so + c 1) (bg.map (s_stp 1)) ++ l1), l2, by rw [e, List.append_assoc w, List.append_assoc, List.append_assoc]; rfl, fun x hx => ?_⟩
          rcases List.mem_append.mp hx with r | r
          · exact hno 0 (by decide) h0 x r
          · rcases List.mem_append.mp r with r | r
            · exact hno 1 (by decide) h1 x r
            · have := g x r
              rw [List.length_append, List.length_singleton] at this
              omega
        · cases h
theorem w_cti_1 : ∀ l : List Int32, w_cti (fun _ => 1) l = l.length
  | [] => rfl
  | s :: l => by rw [w_cti, w_cti_1 l, List.length_cons]; have : (1 : Int32).toInt = 1 := by decide
                 simp only [this]; omega
theorem c_ok_1 : c_ok (fun _ => 1) := fun _ => (by decide : 1 ≤ (1 : Int32).toInt ∧ (1 : Int32).toInt ≤ 9)
theorem w_lstG_eq {T : ML → Bool} {bg : ML} : ∀ (m n M : Nat), m + n = M + 1 → M ≤ 15 → (∀ k, w_stl k → k.length < n → ¬ T (w_rn bg k) = true) → w_lstG T bg m n = ((w_hit T (fun _ => 1) M [] 0 bg).foldl f_bs none).map (fun b => b.1)
  | 0, n, M, hn, hM, hsh => by
    have : w_hit T (fun _ => 1) M [] 0 bg = [] := by
      rw [List.eq_nil_iff_forall_not_mem]
      intro x hx
      obtain ⟨k, hk, hl, htk, _⟩ := (w_hit_mem M _ _ _ x).mp hx
      exact hsh k hk (by omega) htk
    rw [this]; rfl
  | m + 1, n, M, hn, hM, hsh => by
    rw [w_lstG]
    split
    · next l hl =>
      obtain ⟨h1, l1, l2, e, g⟩ := w_telG_some (c := fun _ => 1) n M [] 0 bg l (by omega) hl hsh
      have z : (0 : Int32).toInt = 0 := by decide
      have hall : ∀ x ∈ w_hit T (fun _ => 1) M [] 0 bg, x.2.toInt = x.1.length ∧ n ≤ x.1.length := by
        intro x hx
        obtain ⟨k, hk, hkl, htk, ek⟩ := (w_hit_mem M _ _ _ x).mp hx
        have h3 : ¬ k.length < n := fun r => hsh k hk r htk
        have h4 := w_ct_i c_ok_1 k 0 (by rw [z]; omega) (by rw [z]; omega)
        rw [w_cti_1, z] at h4
        rw [ek]
        exact ⟨by show (w_ct (fun _ => 1) 0 k).toInt = (k.length : Int); rw [h4]; omega, by show n ≤ k.length; omega⟩
      have hb : (w_ct (fun _ => 1) 0 l).toInt = l.length ∧ n ≤ l.length := hall ([] ++ l, w_ct (fun _ => 1) 0 l) (by rw [e]; simp)
      rw [e, f_first l1 l2 _ none (fun x hx => ?_) (fun x hx => ?_) (fun _ h => by cases h)]
      · rfl
      · have h5 := g x hx
        have h6 := hall x (by rw [e]; simp [hx])
        simp only [List.length_nil] at h5
        show (w_ct (fun _ => 1) 0 l).toInt < x.2.toInt ∨ ((w_ct (fun _ => 1) 0 l).toInt = x.2.toInt ∧ l.length < x.1.length)
        omega
      · have h6 := hall x (by rw [e]; simp [hx])
        show ¬ (x.2.toInt < (w_ct (fun _ => 1) 0 l).toInt ∨ (x.2.toInt = (w_ct (fun _ => 1) 0 l).toInt ∧ x.1.length < l.length))
        omega
    · next hl =>
      refine w_lstG_eq m (n + 1) M (by omega) hM (fun k hk hlt htk => ?_)
      by_cases h : k.length < n
      · exact hsh k hk h htk
      · exact w_telG_none n bg hl k hk (by omega) htk
/-- least and bag: the class's walk finds what the reference finds -/
theorem x_wlk_lst {T : ML → Bool} {bg : ML} (M : Nat) (hM : M ≤ 15) (hg : gds (2 ^ 42) bg) : w_lstG T bg (M + 1) 0 = (x_wlk T (fun _ => 1) M [] 0 bg none).map (fun b => b.1) := by
  have z : (0 : Int32).toInt = 0 := by decide
  rw [x_wlk_eq c_ok_1 M [] 0 bg none (by rw [z]; omega) (by rw [z]; omega), x_hit_fold c_ok_1 M bg hM hg]
  exact w_lstG_eq (M + 1) 0 M (by omega) hM (fun k _ h => absurd h (Nat.not_lt_zero _))
theorem x_th_1 (a b : Int64) (p q : Int64) : x_th a b 0 0 [(p, q)] = decide (p = a ∧ q = b) := by
  have e : decide (Int32.ofNat 0 = 0) = true := by decide
  rw [x_th, x_th, e, Bool.and_true]
  show ((decide (p = a) && decide (q = b)) == true) = _
  by_cases h1 : p = a <;> by_cases h2 : q = b <;> simp [h1, h2]
theorem gds_01 : gds (2 ^ 42) [((0 : Int64), (1 : Int64))] := by
  intro x hx
  rcases List.mem_singleton.mp hx with rfl
  exact ⟨by decide, by decide, by decide, by decide⟩
theorem x_wlk_least (a b : Int64) : w_lst a b 10 0 = (x_wlk (x_th a b 0 0) (fun _ => 1) 9 [] 0 [(0, 1)] none).map (fun b => b.1) := by
  rw [w_lst_eq a b _ (x_th_1 a b), x_wlk_lst 9 (by decide) gds_01]
theorem x_wlk_chp (a b : Int64) (c : Int32 → Int32) (hc : c_ok c) : w_chp a b (c 0) (c 1) (c 2) 7 [] 0 0 1 none = x_wlk (x_th a b 0 0) c 7 [] 0 [(0, 1)] none := by
  have z : (0 : Int32).toInt = 0 := by decide
  rw [w_chp_eq a b c _ (x_th_1 a b), x_wlk_eq hc 7 [] 0 _ none (by rw [z]; omega) (by rw [z]; omega), x_hit_fold hc 7 _ (by decide) gds_01]
theorem x_wlk_bag (aim : Int32) (bg : ML) (h : gds (2 ^ 42) bg) : w_bagL aim bg 8 0 = (x_wlk (x_th 0 1 aim 0) (fun _ => 1) 7 [] 0 bg none).map (fun b => b.1) := by
  rw [w_bagL_eq aim bg h 8 0 (by decide), x_wlk_lst 7 (by decide) h]
