/-! answers are ints, or longs -/
def s_i (r : SR) : Prop := ∃ x, r.1 = .int x
def s_l (r : SR) : Prop := ∃ x, r.1 = .long x
theorem s_i.ite {c : Prop} [Decidable c] {a b : SR} (ha : s_i a) (hb : s_i b) : s_i (if c then a else b) := by
  split
  · exact ha
  · exact hb
theorem s_l.ite {c : Prop} [Decidable c] {a b : SR} (ha : s_l a) (hb : s_l b) : s_l (if c then a else b) := by
  split
  · exact ha
  · exact hb
theorem s_i.mk {x : Int32} {r : pv_I × pv_L} : s_i (.int x, r) := ⟨x, rfl⟩
theorem s_l.mk {x : Int64} {r : pv_I × pv_L} : s_l (.long x, r) := ⟨x, rfl⟩
theorem s_i.ref {J : pv_I} {K : pv_L} {k : Nat} {x : Int32} : s_i (S_ref J K k (.int x)) := ⟨x, rfl⟩
theorem s_l.ref {J : pv_I} {K : pv_L} {k : Nat} {x : Int64} : s_l (S_ref J K k (.long x)) := ⟨x, rfl⟩
theorem ai_found {J : pv_I} {K : pv_L} {i : Int32} {l : Option (List Int32)} : s_i (S_foundAt J K i l) := by
  cases l with
  | none => exact s_i.ref
  | some l =>
    rw [S_found_s]
    repeat' first | with_reducible refine s_i.ite ?_ ?_ | with_reducible exact s_i.ref | with_reducible exact s_i.mk
theorem ai_chp {J : pv_I} {K : pv_L} {i : Int32} {l : BS} : s_i (S_chpV J K i l) := by
  cases l with
  | none => exact s_i.ref
  | some l =>
    rw [S_chp_s]
    repeat' first | with_reducible refine s_i.ite ?_ ?_ | with_reducible exact s_i.ref | with_reducible exact s_i.mk
theorem ai_fre : ∀ (m k : Nat) (J : pv_I) (K : pv_L), s_i (w_frees m k J K) := by
  intro m
  induction m with
  | zero => intro k J K; rw [w_frees]; exact s_i.mk
  | succ m ih => intro k J K; rw [w_frees]; exact s_i.ite s_i.mk (ih _ _ _)
theorem ai_drw : ∀ (m k : Nat) (J : pv_I) (K : pv_L), s_i (w_draws m k J K) := by
  intro m
  induction m with
  | zero => intro k J K; rw [w_draws]; exact s_i.mk
  | succ m ih =>
    intro k J K
    rw [w_draws]
    generalize w_stp (pv_u J 0 3 (w_sd (J 0 3))) K (w_dr (w_sd (J 0 3))) = z
    exact s_i.ite (ih _ _ _) s_i.mk
theorem a_row (J : pv_I) (K : pv_L) (s : Int32) (o : Int32) (n : Int32) : s_i (S_row J K s o n) := by
  unfold S_row
  repeat' first | with_reducible refine s_i.ite ?_ ?_ | with_reducible exact ai_found | with_reducible exact ai_chp | with_reducible exact ai_fre _ _ _ _ | with_reducible exact ai_drw _ _ _ _ | with_reducible exact s_i.ref | with_reducible exact s_i.mk
theorem a_set (J : pv_I) (K : pv_L) (s : Int32) (i : Int32) (v : Int64) : s_i (S_set J K s i v) := by
  unfold S_set
  repeat' first | with_reducible refine s_i.ite ?_ ?_ | with_reducible exact ai_found | with_reducible exact ai_chp | with_reducible exact ai_fre _ _ _ _ | with_reducible exact ai_drw _ _ _ _ | with_reducible exact s_i.ref | with_reducible exact s_i.mk
theorem a_copy (J : pv_I) (K : pv_L) (p : Int32) (q : Int32) (i : Int32) (j : Int32) (n : Int32) : s_i (S_copy J K p q i j n) := by
  unfold S_copy
  repeat' first | with_reducible refine s_i.ite ?_ ?_ | with_reducible exact ai_found | with_reducible exact ai_chp | with_reducible exact ai_fre _ _ _ _ | with_reducible exact ai_drw _ _ _ _ | with_reducible exact s_i.ref | with_reducible exact s_i.mk
theorem a_element (J : pv_I) (K : pv_L) (s : Int32) (i : Int32) : s_l (S_element J K s i) := by
  unfold S_element
  repeat' first | with_reducible refine s_l.ite ?_ ?_ | with_reducible exact ai_found | with_reducible exact ai_chp | with_reducible exact ai_fre _ _ _ _ | with_reducible exact ai_drw _ _ _ _ | with_reducible exact s_l.ref | with_reducible exact s_l.mk
theorem a_show (J : pv_I) (K : pv_L) (s : Int32) (f : Int32) : s_i (S_show J K s f) := by
  unfold S_show
  repeat' first | with_reducible refine s_i.ite ?_ ?_ | with_reducible exact ai_found | with_reducible exact ai_chp | with_reducible exact ai_fre _ _ _ _ | with_reducible exact ai_drw _ _ _ _ | with_reducible exact s_i.ref | with_reducible exact s_i.mk
theorem a_holds (J : pv_I) (K : pv_L) (s : Int32) : s_i (S_holds J K s) := by
  unfold S_holds
  repeat' first | with_reducible refine s_i.ite ?_ ?_ | with_reducible exact ai_found | with_reducible exact ai_chp | with_reducible exact ai_fre _ _ _ _ | with_reducible exact ai_drw _ _ _ _ | with_reducible exact s_i.ref | with_reducible exact s_i.mk
theorem a_says (J : pv_I) (K : pv_L) (s : Int32) (k : Int32) : s_i (S_says J K s k) := by
  unfold S_says
  repeat' first | with_reducible refine s_i.ite ?_ ?_ | with_reducible exact ai_found | with_reducible exact ai_chp | with_reducible exact ai_fre _ _ _ _ | with_reducible exact ai_drw _ _ _ _ | with_reducible exact s_i.ref | with_reducible exact s_i.mk
theorem a_figure (J : pv_I) (K : pv_L) (k : Int32) (a : Int32) (c : Int32) : s_i (S_figure J K k a c) := by
  unfold S_figure
  repeat' first | with_reducible refine s_i.ite ?_ ?_ | with_reducible exact ai_found | with_reducible exact ai_chp | with_reducible exact ai_fre _ _ _ _ | with_reducible exact ai_drw _ _ _ _ | with_reducible exact s_i.ref | with_reducible exact s_i.mk
theorem a_figureOf (J : pv_I) (K : pv_L) (f : Int32) (x : Int32) : s_i (S_figureOf J K f x) := by
  unfold S_figureOf
  repeat' first | with_reducible refine s_i.ite ?_ ?_ | with_reducible exact ai_found | with_reducible exact ai_chp | with_reducible exact ai_fre _ _ _ _ | with_reducible exact ai_drw _ _ _ _ | with_reducible exact s_i.ref | with_reducible exact s_i.mk
theorem a_start (J : pv_I) (K : pv_L) (p : Int64) (q : Int64) : s_i (S_start J K p q) := by
  unfold S_start
  repeat' first | with_reducible refine s_i.ite ?_ ?_ | with_reducible exact ai_found | with_reducible exact ai_chp | with_reducible exact ai_fre _ _ _ _ | with_reducible exact ai_drw _ _ _ _ | with_reducible exact s_i.ref | with_reducible exact s_i.mk
theorem a_barn (J : pv_I) (K : pv_L) (s : Int32) : s_i (S_barn J K s) := by
  unfold S_barn
  with_reducible refine s_i.ite ?_ s_i.ref
  generalize (J 8 s.toNatClampNeg).toNatClampNeg = e
  cases b_barn (b_c K s) e (pv_u J 0 4 (-1)) K with
  | error x => exact s_i.ref
  | ok y => exact s_i.mk
theorem a_fault (J : pv_I) (K : pv_L)  : s_i (S_fault J K ) := by
  unfold S_fault
  repeat' first | with_reducible refine s_i.ite ?_ ?_ | with_reducible exact ai_found | with_reducible exact ai_chp | with_reducible exact ai_fre _ _ _ _ | with_reducible exact ai_drw _ _ _ _ | with_reducible exact s_i.ref | with_reducible exact s_i.mk
theorem a_now (J : pv_I) (K : pv_L) (x : Int32) : s_l (S_now J K x) := by
  unfold S_now
  repeat' first | with_reducible refine s_l.ite ?_ ?_ | with_reducible exact ai_found | with_reducible exact ai_chp | with_reducible exact ai_fre _ _ _ _ | with_reducible exact ai_drw _ _ _ _ | with_reducible exact s_l.ref | with_reducible exact s_l.mk
theorem a_stand (J : pv_I) (K : pv_L) (c : Int32) : s_i (S_stand J K c) := by
  unfold S_stand
  repeat' first | with_reducible refine s_i.ite ?_ ?_ | with_reducible exact ai_found | with_reducible exact ai_chp | with_reducible exact ai_fre _ _ _ _ | with_reducible exact ai_drw _ _ _ _ | with_reducible exact s_i.ref | with_reducible exact s_i.mk
theorem a_call (J : pv_I) (K : pv_L) (f : Int32) : s_i (S_call J K f) := by
  unfold S_call
  repeat' first | with_reducible refine s_i.ite ?_ ?_ | with_reducible exact ai_found | with_reducible exact ai_chp | with_reducible exact ai_fre _ _ _ _ | with_reducible exact ai_drw _ _ _ _ | with_reducible exact s_i.ref | with_reducible exact s_i.mk
theorem a_judge (J : pv_I) (K : pv_L) (s : Int32) (n : Int32) : s_i (S_judge J K s n) := by
  unfold S_judge
  repeat' first | with_reducible refine s_i.ite ?_ ?_ | with_reducible exact ai_found | with_reducible exact ai_chp | with_reducible exact ai_fre _ _ _ _ | with_reducible exact ai_drw _ _ _ _ | with_reducible exact s_i.ref | with_reducible exact s_i.mk
theorem a_told (J : pv_I) (K : pv_L) (s : Int32) (n : Int32) (x : Int32) : s_l (S_told J K s n x) := by
  unfold S_told
  repeat' first | with_reducible refine s_l.ite ?_ ?_ | with_reducible exact ai_found | with_reducible exact ai_chp | with_reducible exact ai_fre _ _ _ _ | with_reducible exact ai_drw _ _ _ _ | with_reducible exact s_l.ref | with_reducible exact s_l.mk
theorem a_dances (J : pv_I) (K : pv_L) (s : Int32) (n : Int32) : s_i (S_dances J K s n) := by
  unfold S_dances
  repeat' first | with_reducible refine s_i.ite ?_ ?_ | with_reducible exact ai_found | with_reducible exact ai_chp | with_reducible exact ai_fre _ _ _ _ | with_reducible exact ai_drw _ _ _ _ | with_reducible exact s_i.ref | with_reducible exact s_i.mk
theorem a_repeated (J : pv_I) (K : pv_L) (s : Int32) (n : Int32) (u : Int32) (x : Int32) : s_l (S_repeated J K s n u x) := by
  unfold S_repeated
  repeat' first | with_reducible refine s_l.ite ?_ ?_ | with_reducible exact ai_found | with_reducible exact ai_chp | with_reducible exact ai_fre _ _ _ _ | with_reducible exact ai_drw _ _ _ _ | with_reducible exact s_l.ref | with_reducible exact s_l.mk
theorem a_same (J : pv_I) (K : pv_L) (a : Int32) (b : Int32) (n : Int32) (o : Bool) : s_i (S_same J K a b n o) := by
  unfold S_same
  repeat' first | with_reducible refine s_i.ite ?_ ?_ | with_reducible exact ai_found | with_reducible exact ai_chp | with_reducible exact ai_fre _ _ _ _ | with_reducible exact ai_drw _ _ _ _ | with_reducible exact s_i.ref | with_reducible exact s_i.mk
theorem a_undo (J : pv_I) (K : pv_L)  : s_l (S_undo J K ) := by
  unfold S_undo
  repeat' first | with_reducible refine s_l.ite ?_ ?_ | with_reducible exact ai_found | with_reducible exact ai_chp | with_reducible exact ai_fre _ _ _ _ | with_reducible exact ai_drw _ _ _ _ | with_reducible exact s_l.ref | with_reducible exact s_l.mk
theorem a_undoes (J : pv_I) (K : pv_L) (i : Int64) : s_i (S_undoes J K i) := by
  unfold S_undoes
  repeat' first | with_reducible refine s_i.ite ?_ ?_ | with_reducible exact ai_found | with_reducible exact ai_chp | with_reducible exact ai_fre _ _ _ _ | with_reducible exact ai_drw _ _ _ _ | with_reducible exact s_i.ref | with_reducible exact s_i.mk
theorem a_made (J : pv_I) (K : pv_L) (a : Int64) (b : Int64) (i : Int64) : s_i (S_made J K a b i) := by
  unfold S_made
  repeat' first | with_reducible refine s_i.ite ?_ ?_ | with_reducible exact ai_found | with_reducible exact ai_chp | with_reducible exact ai_fre _ _ _ _ | with_reducible exact ai_drw _ _ _ _ | with_reducible exact s_i.ref | with_reducible exact s_i.mk
theorem a_least (J : pv_I) (K : pv_L) (a : Int64) (b : Int64) (i : Int32) : s_i (S_least J K a b i) := by
  unfold S_least
  repeat' first | with_reducible refine s_i.ite ?_ ?_ | with_reducible exact ai_found | with_reducible exact ai_chp | with_reducible exact ai_fre _ _ _ _ | with_reducible exact ai_drw _ _ _ _ | with_reducible exact s_i.ref | with_reducible exact s_i.mk
theorem a_cheapest (J : pv_I) (K : pv_L) (a : Int64) (b : Int64) (x : Int32) (y : Int32) (z : Int32) (i : Int32) : s_i (S_cheapest J K a b x y z i) := by
  unfold S_cheapest
  repeat' first | with_reducible refine s_i.ite ?_ ?_ | with_reducible exact ai_found | with_reducible exact ai_chp | with_reducible exact ai_fre _ _ _ _ | with_reducible exact ai_drw _ _ _ _ | with_reducible exact s_i.ref | with_reducible exact s_i.mk
theorem a_side (J : pv_I) (K : pv_L) (a : Int64) (b : Int64) (x : Int32) : s_l (S_side J K a b x) := by
  unfold S_side
  repeat' first | with_reducible refine s_l.ite ?_ ?_ | with_reducible exact ai_found | with_reducible exact ai_chp | with_reducible exact ai_fre _ _ _ _ | with_reducible exact ai_drw _ _ _ _ | with_reducible exact s_l.ref | with_reducible exact s_l.mk
theorem a_over (J : pv_I) (K : pv_L) (a : Int64) (b : Int64) (x : Int32) : s_l (S_over J K a b x) := by
  unfold S_over
  repeat' first | with_reducible refine s_l.ite ?_ ?_ | with_reducible exact ai_found | with_reducible exact ai_chp | with_reducible exact ai_fre _ _ _ _ | with_reducible exact ai_drw _ _ _ _ | with_reducible exact s_l.ref | with_reducible exact s_l.mk
theorem a_closed (J : pv_I) (K : pv_L) (o : Bool) : s_i (S_closed J K o) := by
  unfold S_closed
  repeat' first | with_reducible refine s_i.ite ?_ ?_ | with_reducible exact ai_found | with_reducible exact ai_chp | with_reducible exact ai_fre _ _ _ _ | with_reducible exact ai_drw _ _ _ _ | with_reducible exact s_i.ref | with_reducible exact s_i.mk
theorem a_coloured (J : pv_I) (K : pv_L) (n : Int32) : s_l (S_coloured J K n) := by
  unfold S_coloured
  repeat' first | with_reducible refine s_l.ite ?_ ?_ | with_reducible exact ai_found | with_reducible exact ai_chp | with_reducible exact ai_fre _ _ _ _ | with_reducible exact ai_drw _ _ _ _ | with_reducible exact s_l.ref | with_reducible exact s_l.mk
theorem a_forgot (J : pv_I) (K : pv_L) (s : Int32) (n : Int32) : s_i (S_forgot J K s n) := by
  unfold S_forgot
  repeat' first | with_reducible refine s_i.ite ?_ ?_ | with_reducible exact ai_found | with_reducible exact ai_chp | with_reducible exact ai_fre _ _ _ _ | with_reducible exact ai_drw _ _ _ _ | with_reducible exact s_i.ref | with_reducible exact s_i.mk
theorem a_may (J : pv_I) (K : pv_L) (s : Int32) (n : Int32) (x : Int32) : s_l (S_may J K s n x) := by
  unfold S_may
  repeat' first | with_reducible refine s_l.ite ?_ ?_ | with_reducible exact ai_found | with_reducible exact ai_chp | with_reducible exact ai_fre _ _ _ _ | with_reducible exact ai_drw _ _ _ _ | with_reducible exact s_l.ref | with_reducible exact s_l.mk
theorem a_kept (J : pv_I) (K : pv_L) (n : Int32) (b : Int64) : s_i (S_kept J K n b) := by
  unfold S_kept
  repeat' first | with_reducible refine s_i.ite ?_ ?_ | with_reducible exact ai_found | with_reducible exact ai_chp | with_reducible exact ai_fre _ _ _ _ | with_reducible exact ai_drw _ _ _ _ | with_reducible exact s_i.ref | with_reducible exact s_i.mk
theorem a_lot (J : pv_I) (K : pv_L) (n : Int32) (a : Int64) (b : Int64) : s_i (S_lot J K n a b) := by
  unfold S_lot
  repeat' first | with_reducible refine s_i.ite ?_ ?_ | with_reducible exact ai_found | with_reducible exact ai_chp | with_reducible exact ai_fre _ _ _ _ | with_reducible exact ai_drw _ _ _ _ | with_reducible exact s_i.ref | with_reducible exact s_i.mk
theorem a_bag (J : pv_I) (K : pv_L) (s : Int32) (n : Int32) (k : Int32) (i : Int32) : s_i (S_bag J K s n k i) := by
  unfold S_bag
  repeat' first | with_reducible refine s_i.ite ?_ ?_ | with_reducible exact ai_found | with_reducible exact ai_chp | with_reducible exact ai_fre _ _ _ _ | with_reducible exact ai_drw _ _ _ _ | with_reducible exact s_i.ref | with_reducible exact s_i.mk
theorem a_frees (J : pv_I) (K : pv_L) (n : Int32) : s_i (S_frees J K n) := by
  unfold S_frees
  repeat' first | with_reducible refine s_i.ite ?_ ?_ | with_reducible exact ai_found | with_reducible exact ai_chp | with_reducible exact ai_fre _ _ _ _ | with_reducible exact ai_drw _ _ _ _ | with_reducible exact s_i.ref | with_reducible exact s_i.mk
theorem a_draws (J : pv_I) (K : pv_L) (n : Int32) : s_i (S_draws J K n) := by
  unfold S_draws
  repeat' first | with_reducible refine s_i.ite ?_ ?_ | with_reducible exact ai_found | with_reducible exact ai_chp | with_reducible exact ai_fre _ _ _ _ | with_reducible exact ai_drw _ _ _ _ | with_reducible exact s_i.ref | with_reducible exact s_i.mk
theorem a_seed (J : pv_I) (K : pv_L) (v : Int32) : s_i (S_seed J K v) := by
  unfold S_seed
  repeat' first | with_reducible refine s_i.ite ?_ ?_ | with_reducible exact ai_found | with_reducible exact ai_chp | with_reducible exact ai_fre _ _ _ _ | with_reducible exact ai_drw _ _ _ _ | with_reducible exact s_i.ref | with_reducible exact s_i.mk
theorem a_act (J : pv_I) (K : pv_L) (f : Int32) (a : Int32) (x : Int32) : s_i (S_act J K f a x) := by
  unfold S_act
  repeat' first | with_reducible refine s_i.ite ?_ ?_ | with_reducible exact ai_found | with_reducible exact ai_chp | with_reducible exact ai_fre _ _ _ _ | with_reducible exact ai_drw _ _ _ _ | with_reducible exact s_i.ref | with_reducible exact s_i.mk
theorem a_trace (J : pv_I) (K : pv_L) (i : Int32) : s_i (S_trace J K i) := by
  unfold S_trace
  repeat' first | with_reducible refine s_i.ite ?_ ?_ | with_reducible exact ai_found | with_reducible exact ai_chp | with_reducible exact ai_fre _ _ _ _ | with_reducible exact ai_drw _ _ _ _ | with_reducible exact s_i.ref | with_reducible exact s_i.mk
theorem a_image (J : pv_I) (K : pv_L)  : s_i (S_image J K ) := by
  unfold S_image
  repeat' first | with_reducible refine s_i.ite ?_ ?_ | with_reducible exact ai_found | with_reducible exact ai_chp | with_reducible exact ai_fre _ _ _ _ | with_reducible exact ai_drw _ _ _ _ | with_reducible exact s_i.ref | with_reducible exact s_i.mk
theorem a_restore (J : pv_I) (K : pv_L)  : s_i (S_restore J K ) := by
  unfold S_restore
  repeat' first | with_reducible refine s_i.ite ?_ ?_ | with_reducible exact ai_found | with_reducible exact ai_chp | with_reducible exact ai_fre _ _ _ _ | with_reducible exact ai_drw _ _ _ _ | with_reducible exact s_i.ref | with_reducible exact s_i.mk
theorem a_status (J : pv_I) (K : pv_L) (x : Int32) : s_i (S_status J K x) := by
  unfold S_status
  repeat' first | with_reducible refine s_i.ite ?_ ?_ | with_reducible exact ai_found | with_reducible exact ai_chp | with_reducible exact ai_fre _ _ _ _ | with_reducible exact ai_drw _ _ _ _ | with_reducible exact s_i.ref | with_reducible exact s_i.mk
