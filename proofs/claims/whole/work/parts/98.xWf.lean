/-! worlds stay well formed, whatever is called -/
def s_wf (r : SR) : Prop := WF r.2.1 r.2.2
theorem s_wf.ite {c : Prop} [Decidable c] {a b : SR} (ha : c → s_wf a) (hb : ¬ c → s_wf b) : s_wf (if c then a else b) := by
  split
  · exact ha (by assumption)
  · exact hb (by assumption)
theorem WF.same {J : pv_I} {K : pv_L} (h : WF J K) (v : Value) : s_wf (v, J, K) := h
theorem WF.refs {J : pv_I} {K : pv_L} (h : WF J K) (k : Nat) (v : Value) : s_wf (S_ref J K k v) := by
  obtain ⟨h1, h2, h3, h4, h5, h6⟩ := h
  exact ⟨h1, h2, h3, h4, h5, h6⟩
theorem WF.jk {J J2 : pv_I} {K K2 : pv_L} (h : WF J K) (e0 : J2 0 0 = J 0 0) (e6 : J2 0 6 = J 0 6) (e7 : J2 0 7 = J 0 7) (e1 : ∀ i, J2 1 i = J 1 i) (e2 : ∀ i, J2 2 i = J 2 i) (e3 : ∀ i, J2 3 i = J 3 i) (es : ∀ s, s < 8 → wf_sh J s → wf_sh J2 s) (k : ∀ j, j < 4 → K2 0 j = K 0 j) : WF J2 K2 := by
  obtain ⟨h1, h2, h3, h4, h5, h6⟩ := h
  refine ⟨by rw [e0]; exact h1, fun i hi => ?_, ?_, fun s hs => es s hs (h4 s hs), by rw [e6]; exact h5, fun q => ?_⟩
  · rw [e0] at hi
    have g := h2 i hi
    unfold wf_fig at g ⊢
    rw [e1, e2, e3]; exact g
  · rw [k 0 (by decide), k 1 (by decide)]; exact h3
  · rw [e6] at q
    rw [e7, e0, k 2 (by decide), k 3 (by decide)]; exact h6 q

theorem wf_element {J : pv_I} {K : pv_L} (h : WF J K) (s i : Int32) : s_wf (S_element J K s i) := by
  unfold S_element
  repeat' first | with_reducible refine s_wf.ite (fun _ => ?_) (fun _ => ?_) | with_reducible exact h.refs _ _ | with_reducible exact h.same _
theorem wf_holds {J : pv_I} {K : pv_L} (h : WF J K) (s : Int32) : s_wf (S_holds J K s) := by
  unfold S_holds
  repeat' first | with_reducible refine s_wf.ite (fun _ => ?_) (fun _ => ?_) | with_reducible exact h.refs _ _ | with_reducible exact h.same _
theorem wf_figureOf {J : pv_I} {K : pv_L} (h : WF J K) (f x : Int32) : s_wf (S_figureOf J K f x) := by
  unfold S_figureOf
  repeat' first | with_reducible refine s_wf.ite (fun _ => ?_) (fun _ => ?_) | with_reducible exact h.refs _ _ | with_reducible exact h.same _
theorem wf_fault {J : pv_I} {K : pv_L} (h : WF J K)  : s_wf (S_fault J K) := by
  unfold S_fault
  repeat' first | with_reducible refine s_wf.ite (fun _ => ?_) (fun _ => ?_) | with_reducible exact h.refs _ _ | with_reducible exact h.same _
theorem wf_now {J : pv_I} {K : pv_L} (h : WF J K) (x : Int32) : s_wf (S_now J K x) := by
  unfold S_now
  repeat' first | with_reducible refine s_wf.ite (fun _ => ?_) (fun _ => ?_) | with_reducible exact h.refs _ _ | with_reducible exact h.same _
theorem wf_stand {J : pv_I} {K : pv_L} (h : WF J K) (c : Int32) : s_wf (S_stand J K c) := by
  unfold S_stand
  repeat' first | with_reducible refine s_wf.ite (fun _ => ?_) (fun _ => ?_) | with_reducible exact h.refs _ _ | with_reducible exact h.same _
theorem wf_closed {J : pv_I} {K : pv_L} (h : WF J K) (o : Bool) : s_wf (S_closed J K o) := by
  unfold S_closed
  repeat' first | with_reducible refine s_wf.ite (fun _ => ?_) (fun _ => ?_) | with_reducible exact h.refs _ _ | with_reducible exact h.same _
theorem wf_trace {J : pv_I} {K : pv_L} (h : WF J K) (i : Int32) : s_wf (S_trace J K i) := by
  unfold S_trace
  repeat' first | with_reducible refine s_wf.ite (fun _ => ?_) (fun _ => ?_) | with_reducible exact h.refs _ _ | with_reducible exact h.same _
theorem wf_status {J : pv_I} {K : pv_L} (h : WF J K) (x : Int32) : s_wf (S_status J K x) := by
  unfold S_status
  repeat' first | with_reducible refine s_wf.ite (fun _ => ?_) (fun _ => ?_) | with_reducible exact h.refs _ _ | with_reducible exact h.same _
theorem wf_says {J : pv_I} {K : pv_L} (h : WF J K) (s k : Int32) : s_wf (S_says J K s k) := by
  unfold S_says
  repeat' first | with_reducible refine s_wf.ite (fun _ => ?_) (fun _ => ?_) | with_reducible exact h.refs _ _ | with_reducible exact h.same _
theorem wf_judge {J : pv_I} {K : pv_L} (h : WF J K) (s n : Int32) : s_wf (S_judge J K s n) := by
  unfold S_judge
  repeat' first | with_reducible refine s_wf.ite (fun _ => ?_) (fun _ => ?_) | with_reducible exact h.refs _ _ | with_reducible exact h.same _
theorem wf_told {J : pv_I} {K : pv_L} (h : WF J K) (s n x : Int32) : s_wf (S_told J K s n x) := by
  unfold S_told
  repeat' first | with_reducible refine s_wf.ite (fun _ => ?_) (fun _ => ?_) | with_reducible exact h.refs _ _ | with_reducible exact h.same _
theorem wf_same {J : pv_I} {K : pv_L} (h : WF J K) (a b n : Int32) (o : Bool) : s_wf (S_same J K a b n o) := by
  unfold S_same
  repeat' first | with_reducible refine s_wf.ite (fun _ => ?_) (fun _ => ?_) | with_reducible exact h.refs _ _ | with_reducible exact h.same _
theorem wf_repeated {J : pv_I} {K : pv_L} (h : WF J K) (s n u x : Int32) : s_wf (S_repeated J K s n u x) := by
  unfold S_repeated
  repeat' first | with_reducible refine s_wf.ite (fun _ => ?_) (fun _ => ?_) | with_reducible exact h.refs _ _ | with_reducible exact h.same _
theorem wf_coloured {J : pv_I} {K : pv_L} (h : WF J K) (n : Int32) : s_wf (S_coloured J K n) := by
  unfold S_coloured
  repeat' first | with_reducible refine s_wf.ite (fun _ => ?_) (fun _ => ?_) | with_reducible exact h.refs _ _ | with_reducible exact h.same _
theorem wf_undo {J : pv_I} {K : pv_L} (h : WF J K)  : s_wf (S_undo J K) := by
  unfold S_undo
  repeat' first | with_reducible refine s_wf.ite (fun _ => ?_) (fun _ => ?_) | with_reducible exact h.refs _ _ | with_reducible exact h.same _
theorem wf_undoes {J : pv_I} {K : pv_L} (h : WF J K) (i : Int64) : s_wf (S_undoes J K i) := by
  unfold S_undoes
  repeat' first | with_reducible refine s_wf.ite (fun _ => ?_) (fun _ => ?_) | with_reducible exact h.refs _ _ | with_reducible exact h.same _
theorem wf_made {J : pv_I} {K : pv_L} (h : WF J K) (a b i : Int64) : s_wf (S_made J K a b i) := by
  unfold S_made
  repeat' first | with_reducible refine s_wf.ite (fun _ => ?_) (fun _ => ?_) | with_reducible exact h.refs _ _ | with_reducible exact h.same _
theorem wf_side {J : pv_I} {K : pv_L} (h : WF J K) (a b : Int64) (x : Int32) : s_wf (S_side J K a b x) := by
  unfold S_side
  repeat' first | with_reducible refine s_wf.ite (fun _ => ?_) (fun _ => ?_) | with_reducible exact h.refs _ _ | with_reducible exact h.same _
theorem wf_over {J : pv_I} {K : pv_L} (h : WF J K) (a b : Int64) (x : Int32) : s_wf (S_over J K a b x) := by
  unfold S_over
  repeat' first | with_reducible refine s_wf.ite (fun _ => ?_) (fun _ => ?_) | with_reducible exact h.refs _ _ | with_reducible exact h.same _
theorem wf_kept {J : pv_I} {K : pv_L} (h : WF J K) (n : Int32) (b : Int64) : s_wf (S_kept J K n b) := by
  unfold S_kept
  repeat' first | with_reducible refine s_wf.ite (fun _ => ?_) (fun _ => ?_) | with_reducible exact h.refs _ _ | with_reducible exact h.same _
theorem wf_lot {J : pv_I} {K : pv_L} (h : WF J K) (n : Int32) (a b : Int64) : s_wf (S_lot J K n a b) := by
  unfold S_lot
  repeat' first | with_reducible refine s_wf.ite (fun _ => ?_) (fun _ => ?_) | with_reducible exact h.refs _ _ | with_reducible exact h.same _
theorem wf_forgot {J : pv_I} {K : pv_L} (h : WF J K) (s n : Int32) : s_wf (S_forgot J K s n) := by
  unfold S_forgot
  repeat' first | with_reducible refine s_wf.ite (fun _ => ?_) (fun _ => ?_) | with_reducible exact h.refs _ _ | with_reducible exact h.same _
theorem wf_may {J : pv_I} {K : pv_L} (h : WF J K) (s n x : Int32) : s_wf (S_may J K s n x) := by
  unfold S_may
  repeat' first | with_reducible refine s_wf.ite (fun _ => ?_) (fun _ => ?_) | with_reducible exact h.refs _ _ | with_reducible exact h.same _
theorem wf_found {J : pv_I} {K : pv_L} (h : WF J K) (i : Int32) (l : Option (List Int32)) : s_wf (S_foundAt J K i l) := by
  cases l with
  | none => exact h.refs _ _
  | some l =>
    rw [S_found_s]
    repeat' first | with_reducible refine s_wf.ite (fun _ => ?_) (fun _ => ?_) | with_reducible exact h.refs _ _ | with_reducible exact h.same _
theorem wf_chp {J : pv_I} {K : pv_L} (h : WF J K) (i : Int32) (l : BS) : s_wf (S_chpV J K i l) := by
  cases l with
  | none => exact h.refs _ _
  | some l =>
    rw [S_chp_s]
    repeat' first | with_reducible refine s_wf.ite (fun _ => ?_) (fun _ => ?_) | with_reducible exact h.refs _ _ | with_reducible exact h.same _
theorem wf_least {J : pv_I} {K : pv_L} (h : WF J K) (a b : Int64) (i : Int32) : s_wf (S_least J K a b i) := by
  unfold S_least
  repeat' first | with_reducible refine s_wf.ite (fun _ => ?_) (fun _ => ?_) | with_reducible exact wf_found h _ _ | with_reducible exact wf_chp h _ _ | with_reducible exact h.refs _ _ | with_reducible exact h.same _
theorem wf_cheapest {J : pv_I} {K : pv_L} (h : WF J K) (a b : Int64) (x y z i : Int32) : s_wf (S_cheapest J K a b x y z i) := by
  unfold S_cheapest
  repeat' first | with_reducible refine s_wf.ite (fun _ => ?_) (fun _ => ?_) | with_reducible exact wf_found h _ _ | with_reducible exact wf_chp h _ _ | with_reducible exact h.refs _ _ | with_reducible exact h.same _
theorem wf_bag {J : pv_I} {K : pv_L} (h : WF J K) (s n k i : Int32) : s_wf (S_bag J K s n k i) := by
  unfold S_bag
  repeat' first | with_reducible refine s_wf.ite (fun _ => ?_) (fun _ => ?_) | with_reducible exact wf_found h _ _ | with_reducible exact wf_chp h _ _ | with_reducible exact h.refs _ _ | with_reducible exact h.same _
theorem wf_seed {J : pv_I} {K : pv_L} (h : WF J K) (v : Int32) : s_wf (S_seed J K v) := by
  unfold S_seed
  exact h.f3 v
theorem wf_row {J : pv_I} {K : pv_L} (h : WF J K) (s o n : Int32) : s_wf (S_row J K s o n) := by
  unfold S_row
  with_reducible refine s_wf.ite (fun hs => s_wf.ite (fun _ => h.refs _ _) (fun h1 => s_wf.ite (fun h2 => s_wf.ite (fun _ => h.refs _ _) (fun h3 => ?_)) (fun _ => h.refs _ _))) (fun _ => h.refs _ _)
  refine h.jk rfl rfl rfl (fun _ => rfl) (fun _ => rfl) (fun _ => rfl) (fun x hx hw => ?_) (fun j _ => ?_)
  · have b1 := i_le.mp h2.1
    have b2 := i_le.mp h2.2
    rw [i_lt, show (0 : Int32).toInt = 0 from rfl] at h1
    rw [i_lt, show (160 : Int32).toInt = 160 from rfl] at h3
    rw [show (0 : Int32).toInt = 0 from rfl] at b1
    rw [show (3 : Int32).toInt = 3 from rfl] at b2
    obtain ⟨w1, w2, w3⟩ := hw
    show ((if 6 = 6 ∧ x = s.toNatClampNeg then 1 else J 6 x) = 0 ∨ (if 6 = 6 ∧ x = s.toNatClampNeg then 1 else J 6 x) = 1 ∨ (if 6 = 6 ∧ x = s.toNatClampNeg then 1 else J 6 x) = 2) ∧ ((if 6 = 6 ∧ x = s.toNatClampNeg then 1 else J 6 x) = 1 → (0 ≤ (if 7 = 7 ∧ x = s.toNatClampNeg then o else J 7 x).toInt ∧ (if 7 = 7 ∧ x = s.toNatClampNeg then o else J 7 x).toInt ≤ 3 ∧ 0 ≤ (if 8 = 8 ∧ x = s.toNatClampNeg then n else J 8 x).toInt ∧ (if 8 = 8 ∧ x = s.toNatClampNeg then n else J 8 x).toInt ≤ 160)) ∧ ((if 6 = 6 ∧ x = s.toNatClampNeg then 1 else J 6 x) = 2 → (0 ≤ (J 9 x).toInt ∧ (J 9 x).toInt < (J 0 0).toInt))
    by_cases g : x = s.toNatClampNeg
    · simp only [g, and_self, if_true]
      exact ⟨by decide, fun _ => ⟨b1, b2, by omega, by omega⟩, fun q => absurd q (by decide)⟩
    · simp only [g, and_false, if_false]
      exact ⟨w1, w2, w3⟩
  · show pv_ur K (1 + s.toNatClampNeg) (fun _ => 0) 0 j = K 0 j
    unfold pv_ur; rw [if_neg (by omega)]
theorem wf_set {J : pv_I} {K : pv_L} (h : WF J K) (s i : Int32) (v : Int64) : s_wf (S_set J K s i v) := by
  unfold S_set
  with_reducible refine s_wf.ite (fun hs => s_wf.ite (fun _ => h.refs _ _) (fun h1 => s_wf.ite (fun _ => h.refs _ _) (fun _ => s_wf.ite (fun _ => ?_) (fun _ => h.refs _ _)))) (fun _ => h.refs _ _)
  exact h.jk rfl rfl rfl (fun _ => rfl) (fun _ => rfl) (fun _ => rfl) (fun x hx hw => hw) (fun j _ => pv_u_o _ (by omega))
theorem wf_copy {J : pv_I} {K : pv_L} (h : WF J K) (p q i j n : Int32) : s_wf (S_copy J K p q i j n) := by
  unfold S_copy
  with_reducible refine s_wf.ite (fun hs => s_wf.ite (fun _ => h.refs _ _) (fun h1 => s_wf.ite (fun _ => h.refs _ _) (fun _ => s_wf.ite (fun _ => h.refs _ _) (fun _ => s_wf.ite (fun _ => ?_) (fun _ => h.refs _ _))))) (fun _ => h.refs _ _)
  exact h.jk rfl rfl rfl (fun _ => rfl) (fun _ => rfl) (fun _ => rfl) (fun x hx hw => hw) (fun j _ => by show pv_ur K _ _ 0 j = _; unfold pv_ur; rw [if_neg (by omega)])
theorem wf_show {J : pv_I} {K : pv_L} (h : WF J K) (s f : Int32) : s_wf (S_show J K s f) := by
  unfold S_show
  with_reducible refine s_wf.ite (fun hs => ?_) (fun _ => h.refs _ _)
  refine h.jk rfl rfl rfl (fun _ => rfl) (fun _ => rfl) (fun _ => rfl) (fun x hx hw => ?_) (fun j _ => rfl)
  obtain ⟨w1, w2, w3⟩ := hw
  show ((if 6 = 6 ∧ x = s.toNatClampNeg then (if f = -1 then 0 else 2) else J 6 x) = 0 ∨ (if 6 = 6 ∧ x = s.toNatClampNeg then (if f = -1 then 0 else 2) else J 6 x) = 1 ∨ (if 6 = 6 ∧ x = s.toNatClampNeg then (if f = -1 then 0 else 2) else J 6 x) = 2) ∧ ((if 6 = 6 ∧ x = s.toNatClampNeg then (if f = -1 then 0 else 2) else J 6 x) = 1 → (0 ≤ (J 7 x).toInt ∧ (J 7 x).toInt ≤ 3 ∧ 0 ≤ (J 8 x).toInt ∧ (J 8 x).toInt ≤ 160)) ∧ ((if 6 = 6 ∧ x = s.toNatClampNeg then (if f = -1 then 0 else 2) else J 6 x) = 2 → (0 ≤ (if 9 = 9 ∧ x = s.toNatClampNeg then f else J 9 x).toInt ∧ (if 9 = 9 ∧ x = s.toNatClampNeg then f else J 9 x).toInt < (J 0 0).toInt))
  by_cases g : x = s.toNatClampNeg
  · simp only [g, and_self, if_true]
    by_cases e : f = -1
    · simp only [if_pos e]
      exact ⟨by decide, fun q => absurd q (by decide), fun q => absurd q (by decide)⟩
    · simp only [if_neg e]
      refine ⟨by decide, fun q => absurd q (by decide), fun _ => ?_⟩
      rcases hs.2 with q | ⟨q1, q2⟩
      · exact absurd q e
      · have b1 := i_le.mp q1
        have b2 := i_lt.mp q2
        rw [show (0 : Int32).toInt = 0 from rfl] at b1
        exact ⟨b1, b2⟩
  · simp only [g, and_false, if_false]
    exact ⟨w1, w2, w3⟩
theorem wf_figure {J : pv_I} {K : pv_L} (h : WF J K) (k a c : Int32) : s_wf (S_figure J K k a c) := by
  unfold S_figure
  with_reducible refine s_wf.ite (fun h1 => s_wf.ite (fun h2 => s_wf.ite (fun _ => h.refs _ _) (fun h3 => ?_)) (fun _ => h.refs _ _)) (fun _ => h.refs _ _)
  have hn := h.1
  have a1 := i_le.mp h1.1
  have a2 := i_le.mp h1.2
  have b1 := i_le.mp h2.1
  have b2 := i_le.mp h2.2.1
  have c1 := i_le.mp h2.2.2.1
  have c2 := i_le.mp h2.2.2.2
  rw [show (0 : Int32).toInt = 0 from rfl] at a1 b1
  rw [show (6 : Int32).toInt = 6 from rfl] at a2
  rw [show (9 : Int32).toInt = 9 from rfl] at b2 c2
  rw [show (1 : Int32).toInt = 1 from rfl] at c1
  rw [← Int32.toInt_inj, show (8 : Int32).toInt = 8 from rfl] at h3
  exact h.adds (by omega) ⟨a1, a2⟩ ⟨b1, b2⟩ ⟨c1, c2⟩
theorem wf_start {J : pv_I} {K : pv_L} (h : WF J K) (p q : Int64) : s_wf (S_start J K p q) := by
  unfold S_start
  with_reducible refine s_wf.ite (fun hp => ?_) (fun _ => h.refs _ _)
  exact h.pq ((s_num_iff p q).mp hp)
theorem wf_dances {J : pv_I} {K : pv_L} (h : WF J K) (s n : Int32) : s_wf (S_dances J K s n) := by
  unfold S_dances
  with_reducible refine s_wf.ite (fun hb => s_wf.ite (fun hd => ?_) (fun _ => h.refs _ _)) (fun _ => h.refs _ _)
  exact (h.dn _ _ _).pq ((try_y h hb).1 hd).2.2
theorem wf_call {J : pv_I} {K : pv_L} (h : WF J K) (f : Int32) : s_wf (S_call J K f) := by
  unfold S_call
  with_reducible refine s_wf.ite (fun hf => s_wf.ite (fun hd => ?_) (fun _ => h.refs _ _)) (fun _ => h.refs _ _)
  exact h.cal hf
theorem wf_kn {J : pv_I} {K : pv_L} {k : Int32} (h : WF J K) : WF (w_knB J k) K := by
  unfold w_knB
  have hc : WF (w_knC J k) K := by
    unfold w_knC
    split
    · exact body_wf h
    · split
      · exact body_wf h
      · exact h
  refine calB_wf (stB_wf (body_wf ?_))
  split
  · exact body_wf hc
  · exact hc
theorem wf_act {J : pv_I} {K : pv_L} (h : WF J K) (f a x : Int32) : s_wf (S_act J K f a x) := by
  unfold S_act
  with_reducible refine s_wf.ite (fun _ => s_wf.ite (fun _ => ?_) (fun _ => s_wf.ite (fun _ => ?_) (fun _ => ?_))) (fun _ => ?_)
  · exact calB_wf (r0_wf h)
  · exact stB_wf (r0_wf h)
  · exact wf_kn (r0_wf h)
  · exact r0_wf h
theorem wf_image {J : pv_I} {K : pv_L} (h : WF J K)  : s_wf (S_image J K) := by
  unfold S_image
  obtain ⟨h1, h2, h3, h4, h5, h6⟩ := h
  exact ⟨h1, h2, h3, h4, Or.inr rfl, fun _ => ⟨⟨h1.1, Int.le_refl _⟩, h3⟩⟩
theorem wf_restore {J : pv_I} {K : pv_L} (h : WF J K)  : s_wf (S_restore J K) := by
  unfold S_restore
  with_reducible refine s_wf.ite (fun h60 => ?_) (fun _ => h.refs _ _)
  obtain ⟨h1, h2, h3, h4, h5, h6⟩ := h
  obtain ⟨⟨a1, a2⟩, a3⟩ := h6 h60
  have e0 : w_re J 0 0 = J 0 7 := rfl
  have e6 : ∀ s, w_re J 6 s = if s < 8 ∧ J 6 s = 2 ∧ ¬ J 9 s < J 0 7 then 0 else J 6 s := fun _ => rfl
  refine ⟨⟨a1, by show (J 0 7).toInt ≤ 8; omega⟩, fun i hi => h2 i (by have hi2 : (i : Int) < (J 0 7).toInt := hi; omega), a3, fun s hs => ?_, h5, fun _ => ⟨⟨a1, Int.le_refl _⟩, a3⟩⟩
  obtain ⟨w1, w2, w3⟩ := h4 s hs
  show (w_re J 6 s = 0 ∨ w_re J 6 s = 1 ∨ w_re J 6 s = 2) ∧ (w_re J 6 s = 1 → (0 ≤ (J 7 s).toInt ∧ (J 7 s).toInt ≤ 3 ∧ 0 ≤ (J 8 s).toInt ∧ (J 8 s).toInt ≤ 160)) ∧ (w_re J 6 s = 2 → (0 ≤ (J 9 s).toInt ∧ (J 9 s).toInt < (J 0 7).toInt))
  rw [e6]
  by_cases g : s < 8 ∧ J 6 s = 2 ∧ ¬ J 9 s < J 0 7
  · rw [if_pos g]
    exact ⟨Or.inl rfl, fun q => absurd q (by decide), fun q => absurd q (by decide)⟩
  · rw [if_neg g]
    refine ⟨w1, w2, fun q => ⟨(w3 q).1, ?_⟩⟩
    have g2 : J 9 s < J 0 7 := Classical.not_not.mp (fun r => g ⟨hs, q, r⟩)
    exact i_lt.mp g2
theorem wf_fre : ∀ (m k : Nat) (J : pv_I) (K : pv_L), WF J K → s_wf (w_frees m k J K) := by
  intro m
  induction m with
  | zero => intro k J K h; exact h
  | succ m ih =>
    intro k J K h
    unfold w_frees
    with_reducible refine s_wf.ite (fun _ => ?_) (fun _ => ih _ _ _ (h.stp ?_))
    · exact h
    split
    · exact Or.inl rfl
    · exact Or.inr (Or.inr rfl)
theorem wf_drw0 (k : Nat) (J : pv_I) (K : pv_L) (h : WF J K) : s_wf (w_draws 0 k J K) := by
  rw [w_draws]; exact h
theorem wf_mk {v : Value} {z : Bool × pv_I × pv_L} (g : WF z.2.1 z.2.2) : s_wf (v, z.2) := g
theorem wf_drw : ∀ (m k : Nat) (J : pv_I) (K : pv_L), WF J K → s_wf (w_draws m k J K) := by
  intro m
  induction m with
  | zero => intro k J K h; exact wf_drw0 k J K h
  | succ m ih =>
    intro k J K h
    have g := (h.f3 (w_sd (J 0 3))).stp (w_dr_c (w_sd (J 0 3)))
    rw [w_draws]
    generalize w_stp (pv_u J 0 3 (w_sd (J 0 3))) K (w_dr (w_sd (J 0 3))) = z at g ⊢
    by_cases hz : z.1 = true
    · rw [if_pos hz]; exact ih _ _ _ g
    · rw [if_neg hz]; exact wf_mk g
theorem wf_frees {J : pv_I} {K : pv_L} (h : WF J K) (n : Int32) : s_wf (S_frees J K n) := by
  unfold S_frees
  with_reducible exact s_wf.ite (fun _ => h.refs _ _) (fun _ => wf_fre _ _ _ _ h)
theorem wf_draws {J : pv_I} {K : pv_L} (h : WF J K) (n : Int32) : s_wf (S_draws J K n) := by
  unfold S_draws
  with_reducible exact s_wf.ite (fun _ => h.refs _ _) (fun _ => wf_drw _ _ _ _ h)
theorem wf_bl {c : Nat → Int32} {e : Nat} : ∀ (m r n : Nat) (J : pv_I) (K : pv_L) {n1 : Nat} {J2 : pv_I} {K2 : pv_L}, WF J K → r ≤ e → b_run c e m r n J K = .ok (n1, J2, K2) → WF J2 K2
  | 0, r, n, J, K, n1, J2, K2, hW, hr, h => by rw [b_run] at h; cases h
  | m + 1, r, n, J, K, n1, J2, K2, hW, hr, h => by
    rw [b_run] at h
    split at h
    · next h1 =>
      split at h
      · cases hi : b_item c e (r + 1) J K with
        | error x => rw [hi] at h; cases h
        | ok y =>
          obtain ⟨y1, y2, y3⟩ := y
          rw [hi] at h
          have hk := b_item_ok hW (by omega) hi
          exact wf_bl m y1 (n + 1) y2 y3 hk.1 hk.2.2.1 h
      · cases h
    · cases h; exact hW
theorem wf_barn {J : pv_I} {K : pv_L} (h : WF J K) (s : Int32) : s_wf (S_barn J K s) := by
  unfold S_barn
  with_reducible refine s_wf.ite (fun _ => ?_) (fun _ => h.refs _ _)
  have h4 := h.f4 (-1)
  generalize (J 8 s.toNatClampNeg).toNatClampNeg = e
  cases hb : b_barn (b_c K s) e (pv_u J 0 4 (-1)) K with
  | error x => exact (h.f4 (Int32.ofNat x)).refs _ _
  | ok y =>
    obtain ⟨n1, J2, K2⟩ := y
    show WF J2 K2
    unfold b_barn at hb
    cases hi : b_item (b_c K s) e 0 (pv_u J 0 4 (-1)) K with
    | error x => rw [hi] at hb; cases hb
    | ok y =>
      obtain ⟨y1, y2, y3⟩ := y
      rw [hi] at hb
      have hk := b_item_ok h4 (Nat.zero_le _) hi
      exact wf_bl (e + 1) y1 1 y2 y3 hk.1 hk.2.2.1 hb
