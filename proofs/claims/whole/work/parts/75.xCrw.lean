/-! part 75 -/
/-! unlike numbers, each with how many rows come to it -/
abbrev CL : Type := List ((Int64 × Int64) × Int32)
def c_add (x : Int64 × Int64) (r : Int32) : CL → CL
  | [] => [(x, r)]
  | e :: l => if e.1 = x then (e.1, e.2 + r) :: l else e :: c_add x r l
def c_keys (cl : CL) : List (Int64 × Int64) := cl.map (fun e => e.1)
def c_sum (g : Int64 × Int64 → Int32) : CL → Int32
  | [] => 0
  | e :: l => e.2 * g e.1 + c_sum g l
theorem c_sum_nil (g : Int64 × Int64 → Int32) : c_sum g [] = 0 := rfl
theorem c_sum_add (g : Int64 × Int64 → Int32) (x : Int64 × Int64) (r : Int32) : ∀ cl, c_sum g (c_add x r cl) = c_sum g cl + r * g x
  | [] => by rw [c_add]; show r * g x + c_sum g [] = c_sum g [] + r * g x; rw [c_sum_nil]; grind
  | e :: l => by
    rw [c_add]
    split
    · next h => rw [c_sum, c_sum, ← h]; grind
    · rw [c_sum, c_sum, c_sum_add g x r l]; grind
theorem c_add_mem (x y : Int64 × Int64) (r : Int32) : ∀ cl, y ∈ c_keys (c_add x r cl) ↔ y = x ∨ y ∈ c_keys cl
  | [] => by simp [c_add, c_keys]
  | e :: l => by
    rw [c_add]
    split
    · next h => simp only [c_keys, List.map_cons, List.mem_cons]; rw [h]; grind
    · have ih := c_add_mem x y r l
      simp only [c_keys, List.map_cons, List.mem_cons] at ih ⊢
      rw [ih]; grind
theorem c_add_nd (x : Int64 × Int64) (r : Int32) : ∀ cl, (c_keys cl).Nodup → (c_keys (c_add x r cl)).Nodup
  | [], _ => by simp [c_add, c_keys]
  | e :: l, h => by
    have h2 : e.1 ∉ c_keys l ∧ (c_keys l).Nodup := List.nodup_cons.mp h
    rw [c_add]
    split
    · exact h
    · next g =>
      refine List.nodup_cons.mpr ⟨fun q => ?_, c_add_nd x r l h2.2⟩
      rcases (c_add_mem x e.1 r l).mp q with q | q
      · exact g q
      · exact h2.1 q
theorem c_add_len (x : Int64 × Int64) (r : Int32) : ∀ cl, (c_add x r cl).length ≤ cl.length + 1 ∧ cl.length ≤ (c_add x r cl).length
  | [] => by rw [c_add]; exact ⟨Nat.le_refl _, Nat.zero_le _⟩
  | e :: l => by
    rw [c_add]
    split
    · simp
    · have := c_add_len x r l
      simp only [List.length_cons]; omega
theorem c_add_new (x : Int64 × Int64) (r : Int32) : ∀ cl, x ∉ c_keys cl → c_add x r cl = cl ++ [(x, r)]
  | [], _ => rfl
  | e :: l, h => by
    have h2 : ¬ x = e.1 ∧ x ∉ c_keys l := by
      simp only [c_keys, List.map_cons, List.mem_cons, not_or] at h
      exact h
    rw [c_add, if_neg (fun q => h2.1 q.symm), c_add_new x r l h2.2]; rfl
theorem c_add_old (x : Int64 × Int64) (r : Int32) : ∀ (cl : CL) (i : Nat) (n : Int32), (c_keys cl).Nodup → cl[i]? = some (x, n) → c_add x r cl = cl.set i (x, n + r)
  | [], i, n, _, h => by cases h
  | e :: l, 0, n, _, h => by
    rw [List.getElem?_cons_zero] at h
    cases h
    rw [c_add, if_pos rfl]; rfl
  | e :: l, i + 1, n, hn, h => by
    rw [List.getElem?_cons_succ] at h
    have h2 : e.1 ∉ c_keys l ∧ (c_keys l).Nodup := List.nodup_cons.mp hn
    rw [c_add, if_neg (fun q => h2.1 (by rw [q]; exact List.mem_map.mpr ⟨_, List.mem_of_getElem? h, rfl⟩)), c_add_old x r l i n h2.2 h]; rfl
/-- a step of all of them -/
def c_step (s : Int32) (ok : Int64 × Int64 → Bool) : CL → CL → CL
  | [], to => to
  | e :: l, to => c_step s ok l (if ok (s_stp s e.1) = true then c_add (s_stp s e.1) e.2 to else to)
theorem c_step_sum (g : Int64 × Int64 → Int32) (s : Int32) (ok : Int64 × Int64 → Bool) : ∀ (l to : CL), c_sum g (c_step s ok l to) = c_sum g to + c_sum (fun x => if ok (s_stp s x) = true then g (s_stp s x) else 0) l
  | [], to => by rw [c_step, c_sum]; grind
  | e :: l, to => by
    rw [c_step, c_step_sum g s ok l, c_sum]
    split
    · rw [c_sum_add]; grind
    · grind
theorem c_step_nd (s : Int32) (ok : Int64 × Int64 → Bool) : ∀ (l to : CL), (c_keys to).Nodup → (c_keys (c_step s ok l to)).Nodup
  | [], to, h => h
  | e :: l, to, h => by
    rw [c_step]
    refine c_step_nd s ok l _ ?_
    split
    · exact c_add_nd _ _ _ h
    · exact h
theorem c_step_mem (s : Int32) (ok : Int64 × Int64 → Bool) (y : Int64 × Int64) : ∀ (l to : CL), y ∈ c_keys (c_step s ok l to) ↔ y ∈ c_keys to ∨ ∃ x ∈ c_keys l, y = s_stp s x ∧ ok y = true
  | [], to => by rw [c_step]; simp [c_keys]
  | e :: l, to => by
    rw [c_step, c_step_mem s ok y l]
    have e1 : c_keys (e :: l) = e.1 :: c_keys l := rfl
    rw [e1]
    split
    · next h =>
      rw [c_add_mem]
      constructor
      · rintro ((rfl | h1) | ⟨x, h1, h2⟩)
        · exact Or.inr ⟨e.1, List.mem_cons_self .., rfl, h⟩
        · exact Or.inl h1
        · exact Or.inr ⟨x, List.mem_cons_of_mem _ h1, h2⟩
      · rintro (h1 | ⟨x, h1, h2, h3⟩)
        · exact Or.inl (Or.inr h1)
        · rcases List.mem_cons.mp h1 with rfl | h1
          · exact Or.inl (Or.inl h2)
          · exact Or.inr ⟨x, h1, h2, h3⟩
    · next h =>
      constructor
      · rintro (h1 | ⟨x, h1, h2⟩)
        · exact Or.inl h1
        · exact Or.inr ⟨x, List.mem_cons_of_mem _ h1, h2⟩
      · rintro (h1 | ⟨x, h1, h2, h3⟩)
        · exact Or.inl h1
        · rcases List.mem_cons.mp h1 with rfl | h1
          · rw [h2] at h3; exact absurd h3 h
          · exact Or.inr ⟨x, h1, h2, h3⟩
theorem c_step_len (s : Int32) (ok : Int64 × Int64 → Bool) : ∀ (l to : CL), (c_step s ok l to).length ≤ to.length + l.length
  | [], to => by rw [c_step]; exact Nat.le_refl _
  | e :: l, to => by
    rw [c_step]
    refine Nat.le_trans (c_step_len s ok l _) ?_
    rw [List.length_cons]
    split
    · have := (c_add_len (s_stp s e.1) e.2 to).1; omega
    · omega
theorem c_step_cons (s : Int32) (ok : Int64 × Int64 → Bool) : ∀ (l k to : CL), c_step s ok (l ++ k) to = c_step s ok k (c_step s ok l to)
  | [], k, to => rfl
  | e :: l, k, to => by rw [List.cons_append, c_step, c_step, c_step_cons s ok l k]
def c_all (ok : Int64 × Int64 → Bool) (cl : CL) : CL := c_step 2 ok cl (c_step 1 ok cl (c_step 0 ok cl []))
def c_rows (ok : Int64 × Int64 → Bool) : Nat → CL → CL
  | 0, cl => cl
  | n + 1, cl => c_rows ok n (c_all ok cl)
def c_F (ok : Int64 × Int64 → Bool) (f : Int64 × Int64 → Int32) : Nat → Int64 × Int64 → Int32
  | 0, x => f x
  | m + 1, x => (if ok (s_stp 0 x) = true then c_F ok f m (s_stp 0 x) else 0) + (if ok (s_stp 1 x) = true then c_F ok f m (s_stp 1 x) else 0) + (if ok (s_stp 2 x) = true then c_F ok f m (s_stp 2 x) else 0)
theorem c_sum_plus (g h : Int64 × Int64 → Int32) : ∀ cl, c_sum g cl + c_sum h cl = c_sum (fun x => g x + h x) cl
  | [] => by rw [c_sum, c_sum, c_sum]; rfl
  | e :: l => by rw [c_sum, c_sum, c_sum, ← c_sum_plus g h l]; grind
theorem c_all_sum (ok : Int64 × Int64 → Bool) (g : Int64 × Int64 → Int32) (cl : CL) : c_sum g (c_all ok cl) = c_sum (fun x => (if ok (s_stp 0 x) = true then g (s_stp 0 x) else 0) + (if ok (s_stp 1 x) = true then g (s_stp 1 x) else 0) + (if ok (s_stp 2 x) = true then g (s_stp 2 x) else 0)) cl := by
  rw [c_all, c_step_sum, c_step_sum, c_step_sum, ← c_sum_plus, ← c_sum_plus, c_sum]
  grind
theorem c_rows_sum (ok : Int64 × Int64 → Bool) (f : Int64 × Int64 → Int32) : ∀ (n : Nat) (cl : CL), c_sum f (c_rows ok n cl) = c_sum (c_F ok f n) cl
  | 0, cl => rfl
  | n + 1, cl => by rw [c_rows, c_rows_sum ok f n, c_all_sum]; rfl
/-! how many unlike ones there may be: steps as tables of four whole numbers -/
abbrev MT : Type := Int × Int × Int × Int
def mt_neg (A : MT) : MT := (-A.1, -A.2.1, -A.2.2.1, -A.2.2.2)
def mt_cn (A : MT) : MT := if A.2.2.1 < 0 ∨ (A.2.2.1 = 0 ∧ A.2.2.2 < 0) then mt_neg A else A
def mt_s (s : Nat) (A : MT) : MT := if s = 0 then (A.1 + A.2.2.1, A.2.1 + A.2.2.2, A.2.2.1, A.2.2.2) else if s = 1 then (A.1 - A.2.2.1, A.2.1 - A.2.2.2, A.2.2.1, A.2.2.2) else (-A.2.2.1, -A.2.2.2, A.1, A.2.1)
def mt_dd : List MT → List MT
  | [] => []
  | x :: l => if x ∈ mt_dd l then mt_dd l else x :: mt_dd l
theorem mt_dd_mem (y : MT) : ∀ l, y ∈ mt_dd l ↔ y ∈ l
  | [] => Iff.rfl
  | x :: l => by
    have ih := mt_dd_mem y l
    rw [mt_dd]
    split
    · next h => rw [List.mem_cons, ih]; exact ⟨Or.inr, fun q => q.elim (fun r => by rw [r]; exact (mt_dd_mem x l).mp h) id⟩
    · rw [List.mem_cons, List.mem_cons, ih]
def mt_nx (l : List MT) : List MT := mt_dd (l.flatMap (fun A => [mt_cn (mt_s 0 A), mt_cn (mt_s 1 A), mt_cn (mt_s 2 A)]))
def mt_lay : Nat → List MT
  | 0 => [(1, 0, 0, 1)]
  | n + 1 => mt_nx (mt_lay n)
set_option maxRecDepth 100000 in
theorem mt_lay_len : ∀ n, n ≤ 9 → (mt_lay n).length ≤ 319 := by decide +kernel
