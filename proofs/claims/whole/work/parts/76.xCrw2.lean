/-! part 76 -/
def mt_re (A : MT) (x y : Int64 × Int64) : Prop := (y.1.toInt = A.1 * x.1.toInt + A.2.1 * x.2.toInt ∧ y.2.toInt = A.2.2.1 * x.1.toInt + A.2.2.2 * x.2.toInt) ∨ (-y.1.toInt = A.1 * x.1.toInt + A.2.1 * x.2.toInt ∧ -y.2.toInt = A.2.2.1 * x.1.toInt + A.2.2.2 * x.2.toInt)
theorem mt_re_neg {A : MT} {x y : Int64 × Int64} (h : mt_re A x y) : mt_re (mt_neg A) x y := by
  unfold mt_re mt_neg at *
  simp only [Int.neg_mul] at *
  omega
theorem mt_re_cn {A : MT} {x y : Int64 × Int64} (h : mt_re A x y) : mt_re (mt_cn A) x y := by
  unfold mt_cn
  split
  · exact mt_re_neg h
  · exact h
theorem mt_re_one {b : Int} {A : MT} {x y z : Int64 × Int64} (h : mt_re A x y) (g : mt_re A x z) (hy : gd b y) (hz : gd b z) : y = z := by
  unfold mt_re at h g
  have a1 := hy.1
  have a2 := hy.2.2.1
  have b1 := hz.1
  have b2 := hz.2.2.1
  refine Prod.ext ?_ ?_ <;> rw [← Int64.toInt_inj] <;> rcases h with ⟨h1, h2⟩ | ⟨h1, h2⟩ <;> rcases g with ⟨g1, g2⟩ | ⟨g1, g2⟩ <;> first | omega | skip
  all_goals (have c1 : y.2.toInt = 0 := by omega)
  all_goals (have c2 : z.2.toInt = 0 := by omega)
  all_goals (have c3 := a2 c1)
  all_goals (have c4 := b2 c2)
  all_goals omega
theorem on_i {b : Int} {x : Int64 × Int64} (h : gd b x) (hb : b ≤ 2 ^ 60) : ((s_stp 2 x).1.toInt = -x.2.toInt ∧ (s_stp 2 x).2.toInt = x.1.toInt) ∨ ((s_stp 2 x).1.toInt = x.2.toInt ∧ (s_stp 2 x).2.toInt = -x.1.toInt) := by
  obtain ⟨p, q⟩ := x
  have hg := h
  obtain ⟨h1, h2, h3, h4⟩ := h
  simp only at h1 h2 h3 h4
  have z : (0 : Int64).toInt = 0 := by decide
  have h5 : (1 : Int64).toInt = 1 := by decide
  have e : s_stp 2 (p, q) = (if p = 0 then 1 else if 0 < p then -q else q, s_abs p) := by
    unfold s_stp s_stepP s_stepQ
    rw [if_neg (by decide), if_neg (by decide), if_pos rfl]
  have ha := s_abs_i (x := p) (b := b) (by omega) hb
  rw [e]
  by_cases hp : p = 0
  · have hp2 : p.toInt = 0 := by rw [hp]; decide
    have hq := gd_0 hg hp2
    simp only at hq
    rw [if_pos hp, ha]
    right
    simp only [h5]
    omega
  · have hp2 : ¬ p.toInt = 0 := fun r => hp (i0 r)
    rw [if_neg hp]
    by_cases hs : 0 < p
    · rw [if_pos hs]
      have hs2 := hs
      rw [Int64.lt_iff_toInt_lt, z] at hs2
      have hn : (-q).toInt = -q.toInt := by rw [Int64.toInt_neg, l64 (by omega)]
      left
      show (-q).toInt = -q.toInt ∧ (s_abs p).toInt = p.toInt
      rw [ha, hn]
      exact ⟨rfl, by omega⟩
    · rw [if_neg hs]
      have hs2 := hs
      rw [Int64.lt_iff_toInt_lt, z] at hs2
      right
      show q.toInt = q.toInt ∧ (s_abs p).toInt = -p.toInt
      rw [ha]
      exact ⟨rfl, by omega⟩
theorem mt_re_step {b : Int} {A : MT} {x y : Int64 × Int64} (hy : gd b y) (hb : b ≤ 2 ^ 60) (h : mt_re A x y) : mt_re (mt_s 0 A) x (s_stp 0 y) ∧ mt_re (mt_s 1 A) x (s_stp 1 y) ∧ mt_re (mt_s 2 A) x (s_stp 2 y) := by
  have e0 : mt_s 0 A = (A.1 + A.2.2.1, A.2.1 + A.2.2.2, A.2.2.1, A.2.2.2) := rfl
  have e1 : mt_s 1 A = (A.1 - A.2.2.1, A.2.1 - A.2.2.2, A.2.2.1, A.2.2.2) := rfl
  have e2 : mt_s 2 A = (-A.2.2.1, -A.2.2.2, A.1, A.2.1) := rfl
  have o := on_i hy hb
  obtain ⟨p, q⟩ := y
  have a0 := (gd_add hy hb).1
  have a1 := (gd_sub hy hb).1
  unfold mt_re at h ⊢
  rw [e0, e1, e2, stp_0, stp_1]
  simp only [Int.add_mul, Int.sub_mul, Int.neg_mul, a0, a1] at *
  refine ⟨by omega, by omega, ?_⟩
  omega
theorem mt_nx_mem {l : List MT} {A : MT} (h : A ∈ l) {s : Nat} (hs : s = 0 ∨ s = 1 ∨ s = 2) : mt_cn (mt_s s A) ∈ mt_nx l := by
  rw [mt_nx, mt_dd_mem, List.mem_flatMap]
  refine ⟨A, h, ?_⟩
  rcases hs with rfl | rfl | rfl <;> simp
/-- what is at layer n -/
def mt_at (n : Nat) (x y : Int64 × Int64) : Prop := ∃ A ∈ mt_lay n, mt_re A x y
theorem mt_at_0 (x : Int64 × Int64) : mt_at 0 x x := ⟨(1, 0, 0, 1), List.mem_singleton.mpr rfl, Or.inl ⟨by simp, by simp⟩⟩
theorem mt_at_s {n : Nat} {b : Int} {x y : Int64 × Int64} (h : mt_at n x y) (hy : gd b y) (hb : b ≤ 2 ^ 60) {s : Int32} (hs : s = 0 ∨ s = 1 ∨ s = 2) : mt_at (n + 1) x (s_stp s y) := by
  obtain ⟨A, hA, hr⟩ := h
  obtain ⟨r0, r1, r2⟩ := mt_re_step hy hb hr
  rcases hs with rfl | rfl | rfl
  · exact ⟨_, mt_nx_mem hA (Or.inl rfl), mt_re_cn r0⟩
  · exact ⟨_, mt_nx_mem hA (Or.inr (Or.inl rfl)), mt_re_cn r1⟩
  · exact ⟨_, mt_nx_mem hA (Or.inr (Or.inr rfl)), mt_re_cn r2⟩
theorem pg_len {α β : Type} [DecidableEq β] (R : α → β → Prop) : ∀ (l : List α) (m : List β), l.Nodup → (∀ y ∈ l, ∃ A ∈ m, R y A) → (∀ y z A, y ∈ l → z ∈ l → R y A → R z A → y = z) → l.length ≤ m.length
  | [], m, _, _, _ => Nat.zero_le _
  | y :: l, m, hn, hm, hi => by
    obtain ⟨hy, hn2⟩ := List.nodup_cons.mp hn
    obtain ⟨A, hA, hR⟩ := hm y (List.mem_cons_self ..)
    have ih := pg_len R l (m.erase A) hn2 (fun z hz => by
      obtain ⟨B, hB, hRB⟩ := hm z (List.mem_cons_of_mem _ hz)
      refine ⟨B, (List.mem_erase_of_ne (fun q => ?_)).mpr hB, hRB⟩
      rw [q] at hRB
      exact hy (by rw [hi y z A (List.mem_cons_self ..) (List.mem_cons_of_mem _ hz) hR hRB]; exact hz)) (fun u v B hu hv => hi u v B (List.mem_cons_of_mem _ hu) (List.mem_cons_of_mem _ hv))
    rw [List.length_erase_of_mem hA] at ih
    have := List.length_pos_of_mem hA
    rw [List.length_cons]; omega
theorem mt_len {b : Int} {n : Nat} (hn : n ≤ 9) {x : Int64 × Int64} {l : List (Int64 × Int64)} (hd : l.Nodup) (ha : ∀ y ∈ l, mt_at n x y) (hg : ∀ y ∈ l, gd b y) : l.length ≤ 319 :=
  Nat.le_trans (pg_len (fun y A => mt_re A x y) l (mt_lay n) hd ha (fun y z A hy hz h g => mt_re_one h g (hg y hy) (hg z hz))) (mt_lay_len n hn)
/-! all rows: what comes out -/
def x_ok (m : Int64) (x : Int64 × Int64) : Bool := !(decide (m < x.1) || decide (x.1 < -m) || decide (m < x.2) || decide (x.2 < -m))
/-- a number, how far it may be by now -/
def gdn (n : Nat) (x : Int64 × Int64) : Prop := gd (2000000000000 * 2 ^ n) x
theorem gdn_s {n : Nat} (hn : n ≤ 12) {x : Int64 × Int64} (h : gdn n x) {s : Int32} (hs : s = 0 ∨ s = 1 ∨ s = 2) : gdn (n + 1) (s_stp s x) := by
  have hb : (2000000000000 : Int) * 2 ^ n ≤ 2 ^ 60 := by
    have := Nat.pow_le_pow_right (n := 2) (by decide) hn
    have h2 : ((2 ^ n : Nat) : Int) ≤ ((4096 : Nat) : Int) := Int.ofNat_le.mpr (by rw [show (2 : Nat) ^ 12 = 4096 by decide] at this; exact this)
    have h3 : ((2 ^ n : Nat) : Int) = 2 ^ n := Int.natCast_pow 2 n
    omega
  have g := gd_stp hs h hb
  unfold gdn
  rw [Int.pow_succ]
  rw [show (2000000000000 : Int) * (2 ^ n * 2) = 2 * (2000000000000 * 2 ^ n) by grind]
  exact g
theorem gdn_b {n : Nat} (hn : n ≤ 12) : (2000000000000 : Int) * 2 ^ n ≤ 2 ^ 60 := by
  have := Nat.pow_le_pow_right (n := 2) (by decide) hn
  have h2 : ((2 ^ n : Nat) : Int) ≤ ((4096 : Nat) : Int) := Int.ofNat_le.mpr (by rw [show (2 : Nat) ^ 12 = 4096 by decide] at this; exact this)
  have h3 : ((2 ^ n : Nat) : Int) = 2 ^ n := Int.natCast_pow 2 n
  omega
/-- a crowd at a layer -/
def c_good (n : Nat) (x0 : Int64 × Int64) (cl : CL) : Prop := (c_keys cl).Nodup ∧ ∀ y ∈ c_keys cl, gdn n y ∧ mt_at n x0 y
theorem c_good.len {n : Nat} {x0 : Int64 × Int64} {cl : CL} (h : c_good n x0 cl) (hn : n ≤ 9) : cl.length ≤ 319 := by
  have := mt_len hn h.1 (fun y hy => (h.2 y hy).2) (fun y hy => (h.2 y hy).1)
  rw [c_keys, List.length_map] at this
  exact this
theorem c_good.nil {n : Nat} {x0 : Int64 × Int64} : c_good n x0 [] := ⟨List.nodup_nil, fun _ h => (List.not_mem_nil h).elim⟩
theorem c_good.step {n : Nat} (hn : n ≤ 12) {x0 : Int64 × Int64} {cl to : CL} (h : c_good n x0 cl) (g : c_good (n + 1) x0 to) {s : Int32} (hs : s = 0 ∨ s = 1 ∨ s = 2) (ok : Int64 × Int64 → Bool) : c_good (n + 1) x0 (c_step s ok cl to) := by
  refine ⟨c_step_nd _ _ _ _ g.1, fun y hy => ?_⟩
  rcases (c_step_mem s ok y cl to).mp hy with q | ⟨x, q, rfl, _⟩
  · exact g.2 y q
  · obtain ⟨a, b⟩ := h.2 x q
    exact ⟨gdn_s hn a hs, mt_at_s b a (gdn_b hn) hs⟩
theorem c_good.take {n : Nat} {x0 : Int64 × Int64} {cl : CL} (h : c_good n x0 cl) (i : Nat) : c_good n x0 (cl.take i) := by
  refine ⟨?_, fun y hy => h.2 y ?_⟩
  · rw [c_keys, List.map_take]; exact h.1.sublist (List.take_sublist _ _)
  · rw [c_keys, List.map_take] at hy; exact List.mem_of_mem_take hy
theorem c_good.all {n : Nat} (hn : n ≤ 12) {x0 : Int64 × Int64} {cl : CL} (h : c_good n x0 cl) (ok : Int64 × Int64 → Bool) : c_good (n + 1) x0 (c_all ok cl) :=
  h.step hn (h.step hn (h.step hn c_good.nil (Or.inl rfl) ok) (Or.inr (Or.inl rfl)) ok) (Or.inr (Or.inr rfl)) ok
theorem c_F_cg (ok ok' : Int64 × Int64 → Bool) (f : Int64 × Int64 → Int32) (P : Nat → Int64 × Int64 → Prop) (M : Nat) (hP : ∀ n x s, n < M → P n x → (s = 0 ∨ s = 1 ∨ s = 2) → P (n + 1) (s_stp s x) ∧ ok (s_stp s x) = ok' (s_stp s x)) : ∀ (m n : Nat) (x : Int64 × Int64), n + m ≤ M → P n x → c_F ok f m x = c_F ok' f m x
  | 0, n, x, _, _ => rfl
  | m + 1, n, x, hn, hx => by
    have g := fun s hs => hP n x s (by omega) hx hs
    rw [c_F, c_F, (g 0 (by decide)).2, (g 1 (by decide)).2, (g 2 (by decide)).2]
    rw [c_F_cg ok ok' f P M hP m (n + 1) _ (by omega) (g 0 (by decide)).1, c_F_cg ok ok' f P M hP m (n + 1) _ (by omega) (g 1 (by decide)).1, c_F_cg ok ok' f P M hP m (n + 1) _ (by omega) (g 2 (by decide)).1]
theorem w_k1_F (b : Int64) (m : Nat) (s : Int32) (p q : Int64) (f : Int32) (ih : ∀ (p q : Int64) (f : Int32), w_kp b m p q f = f + c_F (fun x => w_kin b x.1 x.2) (fun _ => 1) m (p, q)) : w_k1 b m s p q f = f + (if w_kin b (s_stepP s p q) (s_stepQ s p q) = true then c_F (fun x => w_kin b x.1 x.2) (fun _ => 1) m (s_stp s (p, q)) else 0) := by
  unfold w_k1
  split
  · rw [ih]; rfl
  · grind
theorem w_kp_F (b : Int64) : ∀ (m : Nat) (p q : Int64) (f : Int32), w_kp b m p q f = f + c_F (fun x => w_kin b x.1 x.2) (fun _ => 1) m (p, q)
  | 0, p, q, f => rfl
  | m + 1, p, q, f => by
    have ih := w_kp_F b m
    rw [w_kp_s, w_k1_F b m _ _ _ _ ih, w_k1_F b m _ _ _ _ ih, w_k1_F b m _ _ _ _ ih, c_F]
    show _ = f + ((if w_kin b (s_stepP 0 p q) (s_stepQ 0 p q) = true then _ else _) + (if w_kin b (s_stepP 1 p q) (s_stepQ 1 p q) = true then _ else _) + (if w_kin b (s_stepP 2 p q) (s_stepQ 2 p q) = true then _ else _))
    grind
theorem w_cn_F (a b : Int64) : ∀ (m : Nat) (p q : Int64) (f : Int32), w_cn a b m p q f = f + c_F (fun _ => true) (fun x => if x = (a, b) then 1 else 0) m (p, q)
  | 0, p, q, f => by
    rw [w_cn, c_F]
    by_cases h : p = a ∧ q = b
    · rw [if_pos h, if_pos (by rw [h.1, h.2])]
    · rw [if_neg h, if_neg (fun r => h (by cases r; exact ⟨rfl, rfl⟩))]; grind
  | m + 1, p, q, f => by
    have ih := w_cn_F a b m
    rw [w_cn, ih, ih, ih, c_F, if_pos rfl, if_pos rfl, if_pos rfl]
    show _ = f + (c_F (fun _ => true) _ m (s_stepP 0 p q, s_stepQ 0 p q) + c_F (fun _ => true) _ m (s_stepP 1 p q, s_stepQ 1 p q) + c_F (fun _ => true) _ m (s_stepP 2 p q, s_stepQ 2 p q))
    grind
theorem x_ok_kin {b : Int64} {B : Int} {x : Int64 × Int64} (h0 : 0 ≤ b.toInt) (h : gd B x) : x_ok b x = w_kin b x.1 x.2 := by
  unfold x_ok w_kin
  have h1 := h.1
  have hm := Int64.toInt_lt b
  have e : decide (x.2 < -b) = false := by
    refine decide_eq_false (fun q => ?_)
    rw [Int64.lt_iff_toInt_lt, Int64.toInt_neg, l64 (by omega)] at q
    omega
  rw [e, Bool.or_false]
  cases decide (b < x.1) <;> cases decide (x.1 < -b) <;> cases decide (b < x.2) <;> rfl
/-! the table of slots -/
theorem x_and {x : Int32} : 0 ≤ (x &&& 1023).toInt ∧ (x &&& 1023).toInt < 1024 := by
  have h : (x &&& 1023).toBitVec.toNat < 1024 := by
    rw [Int32.toBitVec_and, BitVec.toNat_and]
    have := Nat.and_le_right (n := x.toBitVec.toNat) (m := (1023 : Int32).toBitVec.toNat)
    have e : (1023 : Int32).toBitVec.toNat = 1023 := by decide
    omega
  have e : (x &&& 1023).toInt = ((x &&& 1023).toBitVec.toNat : Int) := by
    show (x &&& 1023).toBitVec.toInt = _
    rw [BitVec.toInt_eq_toNat_of_lt (by omega)]
  omega
set_option maxRecDepth 100000 in
theorem x_nx : ∀ j, j < 1024 → (Int32.ofNat j + 1) &&& 1023 = Int32.ofNat ((j + 1) % 1024) := by decide +kernel
abbrev KL : Type := List (Int64 × Int64)
/-- slots hold 1 and a place, or nothing; each is found from where it hashes -/
def h_ok (h : Int64 × Int64 → Nat) (S : Nat → Int32) (xs : KL) : Prop := (∀ j, j < 1024 → S j = 0 ∨ ∃ i, i < xs.length ∧ S j = Int32.ofNat (i + 1)) ∧ (∀ i x, xs[i]? = some x → ∃ k, k < 1024 ∧ S ((h x + k) % 1024) = Int32.ofNat (i + 1) ∧ ∀ m, m < k → S ((h x + m) % 1024) ≠ 0) ∧ (List.range 1024).countP (fun j => decide (S j = 0)) + xs.length = 1024
/-- where the road from a hash ends: at a free slot, or at the number's own -/
def h_end (h : Int64 × Int64 → Nat) (S : Nat → Int32) (xs : KL) (x : Int64 × Int64) (r : Nat) : Prop := r < 1024 ∧ ((S r = 0 ∧ x ∉ xs ∧ ∃ k, k < 1024 ∧ r = (h x + k) % 1024 ∧ ∀ m, m < k → S ((h x + m) % 1024) ≠ 0) ∨ ∃ i, i < xs.length ∧ S r = Int32.ofNat (i + 1) ∧ xs[i]? = some x)
theorem h_free {h : Int64 × Int64 → Nat} {S : Nat → Int32} {xs : KL} (H : h_ok h S xs) (hl : xs.length < 1024) (b : Nat) : ∃ k, k < 1024 ∧ S ((b + k) % 1024) = 0 := by
  have hp : 0 < (List.range 1024).countP (fun j => decide (S j = 0)) := by have := H.2.2; omega
  obtain ⟨j, hj, hs⟩ := List.countP_pos_iff.mp hp
  have hj := List.mem_range.mp hj
  have hs := of_decide_eq_true hs
  refine ⟨(j + 1024 - b % 1024) % 1024, Nat.mod_lt _ (by decide), ?_⟩
  rw [show (b + (j + 1024 - b % 1024) % 1024) % 1024 = j by omega]
  exact hs
theorem i_ne0 {i : Nat} (h : i < 2147483647) : ¬ Int32.ofNat (i + 1) = 0 := by
  intro q
  have e : (Int32.ofNat (i + 1)).toInt = ((i + 1 : Nat) : Int) := Int32.toInt_ofNat_of_lt (by omega)
  rw [q, show (0 : Int32).toInt = 0 by decide] at e
  omega
theorem i_inj {i j : Nat} (hi : i < 2147483647) (hj : j < 2147483647) (h : Int32.ofNat (i + 1) = Int32.ofNat (j + 1)) : i = j := by
  have e1 : (Int32.ofNat (i + 1)).toInt = ((i + 1 : Nat) : Int) := Int32.toInt_ofNat_of_lt (by omega)
  have e2 : (Int32.ofNat (j + 1)).toInt = ((j + 1 : Nat) : Int) := Int32.toInt_ofNat_of_lt (by omega)
  rw [h] at e1
  omega
/-- a free slot after a road of others: the number isn't there -/
theorem h_none {h : Int64 × Int64 → Nat} {S : Nat → Int32} {xs : KL} (H : h_ok h S xs) (hl : xs.length < 1024) {x : Int64 × Int64} {k : Nat} (hk : k < 1024) (h0 : S ((h x + k) % 1024) = 0) (hm : ∀ m, m < k → ∃ i y, S ((h x + m) % 1024) = Int32.ofNat (i + 1) ∧ i < xs.length ∧ xs[i]? = some y ∧ y ≠ x) : h_end h S xs x ((h x + k) % 1024) := by
  refine ⟨Nat.mod_lt _ (by decide), Or.inl ⟨h0, fun hx => ?_, k, hk, rfl, fun m h1 => ?_⟩⟩
  · obtain ⟨i, hi⟩ := List.mem_iff_getElem?.mp hx
    obtain ⟨c, hc, s1, s2⟩ := H.2.1 i x hi
    have hil := (List.getElem?_eq_some_iff.mp hi).1
    rcases Nat.lt_trichotomy c k with g | g | g
    · obtain ⟨i2, y, a1, a2, a3, a4⟩ := hm c g
      rw [s1] at a1
      have := i_inj (by omega) (by omega) a1
      subst this
      rw [hi] at a3
      exact a4 (Option.some.inj a3).symm
    · subst g
      rw [h0] at s1
      exact i_ne0 (by omega) s1.symm
    · exact s2 k g h0
  · obtain ⟨i, y, a1, a2, _, _⟩ := hm m h1
    rw [a1]; exact i_ne0 (by omega)
theorem cp_upd (S : Nat → Int32) (r : Nat) (v : Int32) (h0 : S r = 0) (hv : v ≠ 0) : ∀ n, r < n → (List.range n).countP (fun j => decide ((if j = r then v else S j) = 0)) + 1 = (List.range n).countP (fun j => decide (S j = 0))
  | 0, h => absurd h (Nat.not_lt_zero _)
  | n + 1, h => by
    rw [List.range_succ, List.countP_append, List.countP_append]
    by_cases e : r = n
    · subst e
      have a : (List.range r).countP (fun j => decide ((if j = r then v else S j) = 0)) = (List.range r).countP (fun j => decide (S j = 0)) := by
        refine List.countP_congr (fun j hj => ?_)
        have := List.mem_range.mp hj
        rw [if_neg (by omega)]
      rw [a, List.countP_singleton, List.countP_singleton, if_pos rfl, decide_eq_false hv, decide_eq_true h0]; rfl
    · have ih := cp_upd S r v h0 hv n (by omega)
      have a : [n].countP (fun j => decide ((if j = r then v else S j) = 0)) = [n].countP (fun j => decide (S j = 0)) := by
        rw [List.countP_singleton, List.countP_singleton, show (if n = r then v else S n) = S n from if_neg (fun q => e q.symm)]
      rw [a]; omega
theorem h_ok_add {h : Int64 × Int64 → Nat} {S : Nat → Int32} {xs : KL} (H : h_ok h S xs) (hl : xs.length < 1024) {x : Int64 × Int64} {r : Nat} (h0 : S r = 0) {k : Nat} (hk : k < 1024) (hr : r = (h x + k) % 1024) (hm : ∀ m, m < k → S ((h x + m) % 1024) ≠ 0) : h_ok h (fun j => if j = r then Int32.ofNat (xs.length + 1) else S j) (xs ++ [x]) := by
  obtain ⟨H1, H2, H3⟩ := H
  have hr1 : r < 1024 := by rw [hr]; exact Nat.mod_lt _ (by decide)
  have hv : Int32.ofNat (xs.length + 1) ≠ 0 := i_ne0 (by omega)
  refine ⟨fun j hj => ?_, fun i y hy => ?_, ?_⟩
  · by_cases e : j = r
    · right; exact ⟨xs.length, by simp, if_pos e⟩
    · rcases H1 j hj with q | ⟨i, q1, q2⟩
      · left; exact (if_neg e).trans q
      · right; exact ⟨i, by simp; omega, (if_neg e).trans q2⟩
  · by_cases e : i < xs.length
    · rw [List.getElem?_append_left e] at hy
      obtain ⟨c, c1, c2, c3⟩ := H2 i y hy
      refine ⟨c, c1, ?_, fun m hm1 => ?_⟩
      · have : ¬ (h y + c) % 1024 = r := fun q => by rw [q, h0] at c2; exact i_ne0 (by omega) c2.symm
        show (if (h y + c) % 1024 = r then _ else S ((h y + c) % 1024)) = _
        rw [if_neg this]; exact c2
      · show (if (h y + m) % 1024 = r then _ else S ((h y + m) % 1024)) ≠ 0
        split
        · exact hv
        · exact c3 m hm1
    · have hi := (List.getElem?_eq_some_iff.mp hy).1
      rw [List.length_append, List.length_singleton] at hi
      have e2 : i = xs.length := by omega
      subst e2
      rw [List.getElem?_append_right (Nat.le_refl _), Nat.sub_self] at hy
      cases hy
      refine ⟨k, hk, ?_, fun m hm1 => ?_⟩
      · show (if (h x + k) % 1024 = r then _ else S ((h x + k) % 1024)) = _
        rw [if_pos hr.symm]
      · show (if (h x + m) % 1024 = r then _ else S ((h x + m) % 1024)) ≠ 0
        split
        · exact hv
        · exact hm m hm1
  · have := cp_upd S r _ h0 hv 1024 hr1
    rw [List.length_append, List.length_singleton]
    show (List.range 1024).countP (fun j => decide ((if j = r then Int32.ofNat (xs.length + 1) else S j) = 0)) + _ = 1024
    omega
theorem cp_all : ∀ n, (List.range n).countP (fun _ => decide ((0 : Int32) = 0)) = n
  | 0 => rfl
  | n + 1 => by rw [List.range_succ, List.countP_append, cp_all n, List.countP_singleton]; rfl
theorem h_ok_nil (h : Int64 × Int64 → Nat) : h_ok h (fun _ => 0) [] := ⟨fun _ _ => Or.inl rfl, (fun i x hx => by cases hx), by rw [List.length_nil, Nat.add_zero]; exact cp_all 1024⟩
theorem h_ok_cg {h : Int64 × Int64 → Nat} {S S1 : Nat → Int32} {xs : KL} (H : h_ok h S xs) (e : ∀ j, j < 1024 → S1 j = S j) : h_ok h S1 xs := by
  obtain ⟨H1, H2, H3⟩ := H
  refine ⟨fun j hj => by rw [e j hj]; exact H1 j hj, fun i x hx => ?_, ?_⟩
  · obtain ⟨k, k1, k2, k3⟩ := H2 i x hx
    exact ⟨k, k1, by rw [e _ (Nat.mod_lt _ (by decide))]; exact k2, fun m hm => by rw [e _ (Nat.mod_lt _ (by decide))]; exact k3 m hm⟩
  · have e2 : (List.range 1024).countP (fun j => decide (S1 j = 0)) = (List.range 1024).countP (fun j => decide (S j = 0)) := List.countP_congr (fun j hj => by rw [e j (List.mem_range.mp hj)])
    rw [e2]; exact H3
/-! what it may be: the reference's way and the crowd's come to the same numbers -/
def x_rm (x : Int64 × Int64) : Bool := s_room x.1 x.2
/-- where it may come to, and whether there is room all the way -/
def x_E (C : Nat → Int64) : Nat → Nat → Int64 × Int64 → KL
  | 0, _, x => [x]
  | m + 1, i, x => if (C i).toInt32 = 3 then x_E C m (i + 1) (s_stp 0 x) ++ x_E C m (i + 1) (s_stp 1 x) else x_E C m (i + 1) (s_stp (C i).toInt32 x)
def x_R (C : Nat → Int64) : Nat → Nat → Int64 × Int64 → Bool
  | 0, _, _ => true
  | m + 1, i, x => if (C i).toInt32 = 3 then (x_rm (s_stp 0 x) && x_R C m (i + 1) (s_stp 0 x)) && (x_rm (s_stp 1 x) && x_R C m (i + 1) (s_stp 1 x)) else x_rm (s_stp (C i).toInt32 x) && x_R C m (i + 1) (s_stp (C i).toInt32 x)
def x_dd (ml : ML) (l : KL) : ML := l.foldl (fun m x => if x ∈ m then m else m ++ [x]) ml
theorem x_dd_app (ml : ML) (l k : KL) : x_dd ml (l ++ k) = x_dd (x_dd ml l) k := List.foldl_append ..
theorem x_dd_mem (y : Int64 × Int64) : ∀ (l : KL) (ml : ML), y ∈ x_dd ml l ↔ y ∈ ml ∨ y ∈ l
  | [], ml => by simp [x_dd]
  | x :: l, ml => by
    show y ∈ x_dd (if x ∈ ml then ml else ml ++ [x]) l ↔ _
    rw [x_dd_mem y l]
    split
    · next h => rw [List.mem_cons]; exact ⟨fun q => q.elim Or.inl (fun r => Or.inr (Or.inr r)), fun q => q.elim Or.inl (fun r => r.elim (fun e => Or.inl (by rw [e]; exact h)) Or.inr)⟩
    · rw [List.mem_append, List.mem_singleton, List.mem_cons]
      exact ⟨fun q => q.elim (fun r => r.elim Or.inl (fun e => Or.inr (Or.inl e))) (fun r => Or.inr (Or.inr r)), fun q => q.elim (fun r => Or.inl (Or.inl r)) (fun r => r.elim (fun e => Or.inl (Or.inr e)) Or.inr)⟩
theorem x_dd_nd : ∀ (l : KL) (ml : ML), ml.Nodup → (x_dd ml l).Nodup
  | [], ml, h => h
  | x :: l, ml, h => by
    show (x_dd (if x ∈ ml then ml else ml ++ [x]) l).Nodup
    refine x_dd_nd l _ ?_
    split
    · exact h
    · next g => exact List.nodup_append.mpr ⟨h, (by simp : [x].Nodup), fun a ha b hb e => g (by rw [← List.mem_singleton.mp hb, ← e]; exact ha)⟩
theorem w_fgt_E (C : Nat → Int64) : ∀ (m i : Nat) (p q : Int64) (ml : ML), w_fgt C m i p q ml = if x_R C m i (p, q) = true then some (x_dd ml (x_E C m i (p, q))) else none
  | 0, i, p, q, ml => by rw [w_fgt, x_R, if_pos rfl]; rfl
  | m + 1, i, p, q, ml => by
    have ih := w_fgt_E C m (i + 1)
    rw [w_fgt, x_R, x_E]
    by_cases h3 : (C i).toInt32 = 3
    · rw [if_pos h3, if_pos h3, if_pos h3]
      show (if x_rm (s_stp 0 (p, q)) = true then _ else none) = _
      cases a : x_rm (s_stp 0 (p, q)) with
      | false => rfl
      | true =>
        rw [if_pos rfl, ih]
        show (match (if x_R C m (i + 1) (s_stp 0 (p, q)) = true then some (x_dd ml (x_E C m (i + 1) (s_stp 0 (p, q)))) else none) with | none => none | some ml1 => if x_rm (s_stp 1 (p, q)) = true then _ else none) = _
        cases b : x_R C m (i + 1) (s_stp 0 (p, q)) with
        | false => rfl
        | true =>
          rw [if_pos rfl]
          show (if x_rm (s_stp 1 (p, q)) = true then w_fgt C m (i + 1) (s_stepP 1 p q) (s_stepQ 1 p q) (x_dd ml (x_E C m (i + 1) (s_stp 0 (p, q)))) else none) = _
          cases c : x_rm (s_stp 1 (p, q)) with
          | false => rfl
          | true =>
            rw [if_pos rfl, ih, x_dd_app]; rfl
    · rw [if_neg h3, if_neg h3, if_neg h3]
      show (if x_rm (s_stp (C i).toInt32 (p, q)) = true then _ else none) = _
      cases a : x_rm (s_stp (C i).toInt32 (p, q)) with
      | false => rfl
      | true => rw [if_pos rfl, ih]; rfl
/-- what the class does at a step -/
def c_fs (C : Nat → Int64) (ok : Int64 × Int64 → Bool) (i : Nat) (cl : CL) : CL := if (C i).toInt32 = 3 then c_step 1 ok cl (c_step 0 ok cl []) else c_step (C i).toInt32 ok cl []
def c_less (s : Int32) (ok : Int64 × Int64 → Bool) (cl : CL) : Bool := cl.any (fun e => !ok (s_stp s e.1))
def c_fl (C : Nat → Int64) (ok : Int64 × Int64 → Bool) (i : Nat) (cl : CL) : Bool := if (C i).toInt32 = 3 then c_less 0 ok cl || c_less 1 ok cl else c_less (C i).toInt32 ok cl
def c_fgt (C : Nat → Int64) (ok : Int64 × Int64 → Bool) : Nat → Nat → CL → Option CL
  | 0, _, cl => some cl
  | m + 1, i, cl => if c_fl C ok i cl = true then none else c_fgt C ok m (i + 1) (c_fs C ok i cl)
theorem c_less_f (s : Int32) (ok : Int64 × Int64 → Bool) (cl : CL) : c_less s ok cl = false ↔ ∀ x ∈ c_keys cl, ok (s_stp s x) = true := by
  unfold c_less c_keys
  rw [List.any_eq_false]
  constructor
  · intro h x hx
    obtain ⟨e, he, rfl⟩ := List.mem_map.mp hx
    have := h e he
    cases g : ok (s_stp s e.1) with
    | true => rfl
    | false => rw [g] at this; exact absurd rfl this
  · intro h e he
    rw [h e.1 (List.mem_map.mpr ⟨e, he, rfl⟩)]; decide
theorem c_fl_f (C : Nat → Int64) (ok : Int64 × Int64 → Bool) (i : Nat) (cl : CL) : c_fl C ok i cl = false ↔ ∀ x ∈ c_keys cl, (if (C i).toInt32 = 3 then ok (s_stp 0 x) = true ∧ ok (s_stp 1 x) = true else ok (s_stp (C i).toInt32 x) = true) := by
  unfold c_fl
  split
  · rw [Bool.or_eq_false_iff, c_less_f, c_less_f]
    exact ⟨fun h x hx => ⟨h.1 x hx, h.2 x hx⟩, fun h => ⟨fun x hx => (h x hx).1, fun x hx => (h x hx).2⟩⟩
  · rw [c_less_f]
theorem c_fs_mem (C : Nat → Int64) (ok : Int64 × Int64 → Bool) (i : Nat) (cl : CL) (y : Int64 × Int64) (h : c_fl C ok i cl = false) : y ∈ c_keys (c_fs C ok i cl) ↔ ∃ x ∈ c_keys cl, (if (C i).toInt32 = 3 then y = s_stp 0 x ∨ y = s_stp 1 x else y = s_stp (C i).toInt32 x) := by
  rw [c_fl_f] at h
  unfold c_fs
  by_cases h3 : (C i).toInt32 = 3
  · simp only [if_pos h3] at h ⊢
    rw [c_step_mem, c_step_mem]
    constructor
    · rintro ((q | ⟨x, h1, h2, h4⟩) | ⟨x, h1, h2, h4⟩)
      · cases q
      · exact ⟨x, h1, Or.inl h2⟩
      · exact ⟨x, h1, Or.inr h2⟩
    · rintro ⟨x, h1, h2 | h2⟩
      · exact Or.inl (Or.inr ⟨x, h1, h2, by rw [h2]; exact (h x h1).1⟩)
      · exact Or.inr ⟨x, h1, h2, by rw [h2]; exact (h x h1).2⟩
  · simp only [if_neg h3] at h ⊢
    rw [c_step_mem]
    constructor
    · rintro (q | ⟨x, h1, h2, h4⟩)
      · cases q
      · exact ⟨x, h1, h2⟩
    · rintro ⟨x, h1, h2⟩
      exact Or.inr ⟨x, h1, h2, by rw [h2]; exact h x h1⟩
theorem c_fs_nd (C : Nat → Int64) (ok : Int64 × Int64 → Bool) (i : Nat) (cl : CL) : (c_keys (c_fs C ok i cl)).Nodup := by
  unfold c_fs
  split
  · exact c_step_nd _ _ _ _ (c_step_nd _ _ _ _ List.nodup_nil)
  · exact c_step_nd _ _ _ _ List.nodup_nil
theorem c_fgt_E (C : Nat → Int64) (ok : Int64 × Int64 → Bool) (P : Int64 × Int64 → Prop) (N : Nat) (hP : ∀ i x s, i < N → P x → (s = (C i).toInt32 ∧ s ≠ 3 ∨ (C i).toInt32 = 3 ∧ (s = 0 ∨ s = 1)) → ok (s_stp s x) = x_rm (s_stp s x) ∧ (x_rm (s_stp s x) = true → P (s_stp s x))) : ∀ (m i : Nat) (cl : CL), i + m ≤ N → (c_keys cl).Nodup → (∀ x ∈ c_keys cl, P x) → match c_fgt C ok m i cl with
    | none => ∃ x ∈ c_keys cl, x_R C m i x = false
    | some cl1 => (∀ x ∈ c_keys cl, x_R C m i x = true) ∧ (c_keys cl1).Nodup ∧ (∀ y, y ∈ c_keys cl1 ↔ ∃ x ∈ c_keys cl, y ∈ x_E C m i x) ∧ ∀ y ∈ c_keys cl1, P y
  | 0, i, cl, hN, hn, hc => by
    rw [c_fgt]
    refine ⟨fun _ _ => rfl, hn, fun y => ⟨fun h => ⟨y, h, List.mem_singleton.mpr rfl⟩, fun ⟨x, h, g⟩ => by rw [List.mem_singleton.mp g]; exact h⟩, hc⟩
  | m + 1, i, cl, hN, hn, hc => by
    rw [c_fgt]
    cases hf : c_fl C ok i cl with
    | true =>
      rw [if_pos rfl]
      have hx : ∃ x ∈ c_keys cl, ¬ (if (C i).toInt32 = 3 then ok (s_stp 0 x) = true ∧ ok (s_stp 1 x) = true else ok (s_stp (C i).toInt32 x) = true) := by
        apply Classical.byContradiction
        intro q
        have : c_fl C ok i cl = false := (c_fl_f C ok i cl).mpr (fun x hx => Classical.byContradiction (fun r => q ⟨x, hx, r⟩))
        rw [hf] at this; cases this
      obtain ⟨x, hx, hq⟩ := hx
      refine ⟨x, hx, ?_⟩
      rw [x_R]
      by_cases h3 : (C i).toInt32 = 3
      · rw [if_pos h3] at hq ⊢
        rw [(hP i x 0 (by omega) (hc x hx) (Or.inr ⟨h3, Or.inl rfl⟩)).1, (hP i x 1 (by omega) (hc x hx) (Or.inr ⟨h3, Or.inr rfl⟩)).1] at hq
        cases a : x_rm (s_stp 0 x) <;> cases b : x_rm (s_stp 1 x) <;> simp_all
      · rw [if_neg h3] at hq ⊢
        rw [(hP i x _ (by omega) (hc x hx) (Or.inl ⟨rfl, h3⟩)).1] at hq
        cases a : x_rm (s_stp (C i).toInt32 x) <;> simp_all
    | false =>
      rw [if_neg (by decide)]
      have hm := fun y => c_fs_mem C ok i cl y hf
      have hfl := (c_fl_f C ok i cl).mp hf
      have ih := c_fgt_E C ok P N hP m (i + 1) (c_fs C ok i cl) (by omega) (c_fs_nd C ok i cl) (fun y hy => by
        obtain ⟨x, hx, he⟩ := (hm y).mp hy
        have hk := hfl x hx
        by_cases h3 : (C i).toInt32 = 3
        · rw [if_pos h3] at he hk
          have p0 := hP i x 0 (by omega) (hc x hx) (Or.inr ⟨h3, Or.inl rfl⟩)
          have p1 := hP i x 1 (by omega) (hc x hx) (Or.inr ⟨h3, Or.inr rfl⟩)
          rcases he with rfl | rfl
          · exact p0.2 (p0.1 ▸ hk.1)
          · exact p1.2 (p1.1 ▸ hk.2)
        · rw [if_neg h3] at he hk
          have p0 := hP i x _ (by omega) (hc x hx) (Or.inl ⟨rfl, h3⟩)
          rw [he]
          exact p0.2 (p0.1 ▸ hk))
      cases hr : c_fgt C ok m (i + 1) (c_fs C ok i cl) with
      | none =>
        rw [hr] at ih
        obtain ⟨y, hy, hq⟩ := ih
        obtain ⟨x, hx, he⟩ := (hm y).mp hy
        refine ⟨x, hx, ?_⟩
        rw [x_R]
        by_cases h3 : (C i).toInt32 = 3
        · rw [if_pos h3] at he ⊢
          rcases he with rfl | rfl <;> rw [hq] <;> simp
        · rw [if_neg h3] at he ⊢
          rw [← he, hq, Bool.and_false]
      | some cl1 =>
        rw [hr] at ih
        obtain ⟨i1, i2, i3, i4⟩ := ih
        refine ⟨fun x hx => ?_, i2, fun y => ?_, i4⟩
        · rw [x_R]
          have hk := hfl x hx
          by_cases h3 : (C i).toInt32 = 3
          · rw [if_pos h3] at hk ⊢
            have p0 := hP i x 0 (by omega) (hc x hx) (Or.inr ⟨h3, Or.inl rfl⟩)
            have p1 := hP i x 1 (by omega) (hc x hx) (Or.inr ⟨h3, Or.inr rfl⟩)
            rw [← p0.1, ← p1.1, hk.1, hk.2, i1 _ ((hm _).mpr ⟨x, hx, by rw [if_pos h3]; exact Or.inl rfl⟩), i1 _ ((hm _).mpr ⟨x, hx, by rw [if_pos h3]; exact Or.inr rfl⟩)]; rfl
          · rw [if_neg h3] at hk ⊢
            have p0 := hP i x _ (by omega) (hc x hx) (Or.inl ⟨rfl, h3⟩)
            rw [← p0.1, hk, i1 _ ((hm _).mpr ⟨x, hx, by rw [if_neg h3]⟩)]; rfl
        · rw [i3]
          constructor
          · rintro ⟨z, hz, hy⟩
            obtain ⟨x, hx, he⟩ := (hm z).mp hz
            refine ⟨x, hx, ?_⟩
            rw [x_E]
            by_cases h3 : (C i).toInt32 = 3
            · rw [if_pos h3] at he ⊢
              rcases he with rfl | rfl
              · exact List.mem_append_left _ hy
              · exact List.mem_append_right _ hy
            · rw [if_neg h3] at he ⊢
              rw [← he]; exact hy
          · rintro ⟨x, hx, hy⟩
            rw [x_E] at hy
            by_cases h3 : (C i).toInt32 = 3
            · rw [if_pos h3] at hy
              rcases List.mem_append.mp hy with q | q
              · exact ⟨_, (hm _).mpr ⟨x, hx, by rw [if_pos h3]; exact Or.inl rfl⟩, q⟩
              · exact ⟨_, (hm _).mpr ⟨x, hx, by rw [if_pos h3]; exact Or.inr rfl⟩, q⟩
            · rw [if_neg h3] at hy
              exact ⟨_, (hm _).mpr ⟨x, hx, by rw [if_neg h3]⟩, hy⟩
/-- how many there are -/
theorem c_fs_len (C : Nat → Int64) (ok : Int64 × Int64 → Bool) (i : Nat) (cl : CL) : (c_fs C ok i cl).length ≤ if (C i).toInt32 = 3 then 2 * cl.length else cl.length := by
  unfold c_fs
  split
  · have := c_step_len 1 ok cl (c_step 0 ok cl [])
    have := c_step_len 0 ok cl []
    rw [List.length_nil] at this
    omega
  · have := c_step_len (C i).toInt32 ok cl []
    rw [List.length_nil] at this
    omega
theorem nd_len {l m : KL} (hl : l.Nodup) (hm : m.Nodup) (h : ∀ x, x ∈ l ↔ x ∈ m) : l.length = m.length := by
  refine Nat.le_antisymm (pg_len (fun a b => a = b) l m hl (fun y hy => ⟨y, (h y).mp hy, rfl⟩) (fun y z A _ _ a b => a.trans b.symm)) (pg_len (fun a b => a = b) m l hm (fun y hy => ⟨y, (h y).mpr hy, rfl⟩) (fun y z A _ _ a b => a.trans b.symm))
def x_P (x : Int64 × Int64) : Prop := gd (2 ^ 42) x ∧ x_rm x = true
theorem x_rm_ok {b : Int} {x : Int64 × Int64} (h : gd b x) : x_ok 1000000000000 x = x_rm x := by
  unfold x_ok x_rm s_room
  have h1 := h.1
  have e1 : (1000000000000 : Int64).toInt = 1000000000000 := by decide
  have e2 : (-1000000000000 : Int64).toInt = -1000000000000 := by decide
  have e : decide (x.2 < -(1000000000000 : Int64)) = false := by
    refine decide_eq_false (fun q => ?_)
    rw [Int64.lt_iff_toInt_lt, show (-(1000000000000 : Int64)).toInt = -1000000000000 by decide] at q
    omega
  have a1 : decide (x.1 ≤ 1000000000000) = !decide (1000000000000 < x.1) := by
    rw [← decide_not]; congr 1; rw [Int64.le_iff_toInt_le, Int64.lt_iff_toInt_lt]; exact propext ⟨by omega, by omega⟩
  have a2 : decide (-1000000000000 ≤ x.1) = !decide (x.1 < -(1000000000000 : Int64)) := by
    rw [← decide_not]; congr 1; rw [Int64.le_iff_toInt_le, Int64.lt_iff_toInt_lt]; exact propext ⟨by omega, by omega⟩
  have a3 : decide (x.2 ≤ 1000000000000) = !decide (1000000000000 < x.2) := by
    rw [← decide_not]; congr 1; rw [Int64.le_iff_toInt_le, Int64.lt_iff_toInt_lt]; exact propext ⟨by omega, by omega⟩
  rw [e, a1, a2, a3]
  cases decide (1000000000000 < x.1) <;> cases decide (x.1 < -(1000000000000 : Int64)) <;> cases decide (1000000000000 < x.2) <;> rfl
theorem x_P_s {x : Int64 × Int64} {s : Int32} (h : x_P x) (hs : s = 0 ∨ s = 1 ∨ s = 2) : x_ok 1000000000000 (s_stp s x) = x_rm (s_stp s x) ∧ (x_rm (s_stp s x) = true → x_P (s_stp s x)) := by
  have g := gd_stp hs h.1 (by omega)
  refine ⟨x_rm_ok g, fun q => ⟨⟨g.1, ?_, g.2.2⟩, q⟩⟩
  have e1 : (1000000000000 : Int64).toInt = 1000000000000 := by decide
  have e2 : (-1000000000000 : Int64).toInt = -1000000000000 := by decide
  unfold x_rm s_room at q
  simp only [Bool.and_eq_true, decide_eq_true_eq, Int64.le_iff_toInt_le, e1, e2] at q
  omega
theorem gdn_0 {p q : Int64} (h : s_isN p q) : gdn 0 (p, q) := by
  obtain ⟨h1, h2, h3, h4, h5⟩ := h
  refine ⟨h1, by show (p.toInt.natAbs : Int) + q.toInt ≤ 2000000000000 * 2 ^ 0; omega, fun z => ?_, ?_⟩
  · rw [if_pos z] at h5; exact h5
  · show Int.gcd p.toInt q.toInt = 1
    split at h5
    · next z => rw [z, h5]; decide
    · exact h5
theorem x_kept {b p q : Int64} (hb : 0 ≤ b.toInt) (h : s_isN p q) {n : Nat} (hn : n ≤ 9) : c_sum (fun _ => 1) (c_rows (x_ok b) n [((p, q), 1)]) = w_kp b n p q 0 := by
  rw [c_rows_sum, w_kp_F, c_sum, c_sum_nil]
  show 1 * c_F (x_ok b) _ n (p, q) + 0 = _
  rw [c_F_cg (x_ok b) (fun x => w_kin b x.1 x.2) (fun _ => 1) gdn 9 (fun m x s hm hx hs => ⟨gdn_s (by omega) hx hs, x_ok_kin hb (gdn_s (by omega) hx hs)⟩) n 0 (p, q) (by omega) (gdn_0 h)]
  grind
/-- where nothing is too wide -/
def x_U : Nat → Int64 × Int64 → Prop
  | 0, x => gd 2000000000000 x ∧ x.2.toInt ≤ 1000000000000
  | n + 1, x => gd (3000000000000 * 2 ^ n) x
theorem p2_9 {n : Nat} (hn : n ≤ 9) : (2 : Int) ^ n ≤ 512 := by
  have := Nat.pow_le_pow_right (n := 2) (by decide) hn
  have h2 : ((2 ^ n : Nat) : Int) ≤ ((512 : Nat) : Int) := Int.ofNat_le.mpr (by rw [show (2 : Nat) ^ 9 = 512 by decide] at this; exact this)
  have h3 : ((2 ^ n : Nat) : Int) = 2 ^ n := Int.natCast_pow 2 n
  omega
theorem x_ok_U {b : Int} {x : Int64 × Int64} (h : gd b x) (hb : b ≤ 1000000000000000) : x_ok 1000000000000000 x = true := by
  obtain ⟨h1, h2, h3, h4⟩ := h
  have e1 : (1000000000000000 : Int64).toInt = 1000000000000000 := by decide
  have e2 : (-(1000000000000000 : Int64)).toInt = -1000000000000000 := by decide
  unfold x_ok
  rw [decide_eq_false (by rw [Int64.lt_iff_toInt_lt]; omega), decide_eq_false (by rw [Int64.lt_iff_toInt_lt]; omega), decide_eq_false (by rw [Int64.lt_iff_toInt_lt]; omega), decide_eq_false (by rw [Int64.lt_iff_toInt_lt]; omega)]
  rfl
theorem x_U_s : ∀ (m : Nat) (x : Int64 × Int64) (s : Int32), m < 9 → x_U m x → (s = 0 ∨ s = 1 ∨ s = 2) → x_U (m + 1) (s_stp s x) ∧ x_ok 1000000000000000 (s_stp s x) = true
  | 0, x, s, _, h, hs => by
    obtain ⟨h1, h2⟩ := h
    have g := gd_stp hs h1 (by omega)
    have o := on_i h1 (by omega)
    have gg : gd 3000000000000 (s_stp s x) := by
      refine ⟨g.1, ?_, g.2.2⟩
      obtain ⟨p, q⟩ := x
      have a0 := (gd_add h1 (by omega)).1
      have a1 := (gd_sub h1 (by omega)).1
      have b1 := h1.1
      have b2 := h1.2.1
      simp only at *
      rcases hs with rfl | rfl | rfl
      · rw [stp_0]; simp only [a0]; omega
      · rw [stp_1]; simp only [a1]; omega
      · omega
    exact ⟨by show gd (3000000000000 * 2 ^ 0) _; exact gg, x_ok_U gg (by omega)⟩
  | m + 1, x, s, hm, h, hs => by
    have hp := p2_9 (n := m) (by omega)
    have h : gd (3000000000000 * 2 ^ m) x := h
    have g := gd_stp hs h (by omega)
    refine ⟨?_, x_ok_U g ?_⟩
    · show gd (3000000000000 * 2 ^ (m + 1)) _
      rw [Int.pow_succ, show (3000000000000 : Int) * (2 ^ m * 2) = 2 * (3000000000000 * 2 ^ m) by grind]
      exact g
    · have hp2 := Nat.pow_le_pow_right (n := 2) (by decide) (show m ≤ 7 by omega)
      have h2 : ((2 ^ m : Nat) : Int) ≤ ((128 : Nat) : Int) := Int.ofNat_le.mpr (by rw [show (2 : Nat) ^ 7 = 128 by decide] at hp2; exact hp2)
      have h3 : ((2 ^ m : Nat) : Int) = 2 ^ m := Int.natCast_pow 2 m
      omega
theorem x_lot {a b p q : Int64} (h : s_isN p q) {n : Nat} (hn : n ≤ 9) : c_sum (fun x => if x = (a, b) then 1 else 0) (c_rows (x_ok 1000000000000000) n [((p, q), 1)]) = w_cn a b n p q 0 := by
  rw [c_rows_sum, w_cn_F, c_sum, c_sum_nil]
  show 1 * c_F (x_ok 1000000000000000) _ n (p, q) + 0 = _
  rw [c_F_cg (x_ok 1000000000000000) (fun _ => true) _ x_U 9 x_U_s n 0 (p, q) (by omega) ⟨by have := gdn_0 h; exact this, h.2.1⟩]
  grind
theorem c_sum_no {x : Int64 × Int64} : ∀ (cl : CL), x ∉ c_keys cl → c_sum (fun y => if y = x then 1 else 0) cl = 0
  | [], _ => rfl
  | e :: l, h => by
    have h2 : ¬ x = e.1 ∧ x ∉ c_keys l := by
      simp only [c_keys, List.map_cons, List.mem_cons, not_or] at h
      exact h
    rw [c_sum, c_sum_no l h2.2, if_neg (fun q => h2.1 q.symm)]; grind
theorem c_sum_at {x : Int64 × Int64} {r : Int32} : ∀ (cl : CL) (i : Nat), (c_keys cl).Nodup → cl[i]? = some (x, r) → c_sum (fun y => if y = x then 1 else 0) cl = r
  | [], i, _, h => by cases h
  | e :: l, 0, hn, h => by
    rw [List.getElem?_cons_zero] at h
    cases h
    have h2 : x ∉ c_keys l ∧ (c_keys l).Nodup := List.nodup_cons.mp hn
    rw [c_sum, c_sum_no l h2.1, if_pos rfl]; grind
  | e :: l, i + 1, hn, h => by
    rw [List.getElem?_cons_succ] at h
    have h2 : e.1 ∉ c_keys l ∧ (c_keys l).Nodup := List.nodup_cons.mp hn
    have hx : x ∈ c_keys l := List.mem_map.mpr ⟨_, List.mem_of_getElem? h, rfl⟩
    rw [c_sum, c_sum_at l i h2.2 h, if_neg (fun q => h2.1 (by rw [q]; exact hx))]; grind
/-- the rows, one after the other -/
theorem c_good_rows (ok : Int64 × Int64 → Bool) {x0 : Int64 × Int64} : ∀ (m n : Nat) (cl : CL), n + m ≤ 9 → c_good n x0 cl → c_good (n + m) x0 (c_rows ok m cl)
  | 0, n, cl, _, h => h
  | m + 1, n, cl, hn, h => by
    rw [show n + (m + 1) = n + 1 + m by omega]
    exact c_good_rows ok m (n + 1) _ (by omega) (h.all (by omega) ok)
theorem c_good_0 {p q : Int64} (h : s_isN p q) (r : Int32) : c_good 0 (p, q) [((p, q), r)] := ⟨by simp [c_keys], fun y hy => by
  have e : y = (p, q) := by simpa [c_keys] using hy
  rw [e]; exact ⟨gdn_0 h, mt_at_0 _⟩⟩
