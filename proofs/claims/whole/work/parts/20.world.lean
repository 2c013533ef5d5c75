/-! WORLDS: what both sides show. J 0: 0 figures, 1 steps, 2 spent, 3 seed, 4 fault, 5 ran, 6 is there an image, 7..10 the image's figures, steps, spent, seed;
J 1, 2, 3: kind, part, cost; J 4: stands; J 5: the image's stands; J 6 held, 7 sort, 8 size, 9 shown; J 10 refused; J 11 trace. K 0: 0 p, 1 q, 2 and 3 the image's; K (1 + s): the cells of shelf s -/
abbrev SR : Type := Value × pv_I × pv_L
def s_isN (p q : Int64) : Prop := 0 ≤ q.toInt ∧ q.toInt ≤ 1000000000000 ∧ -1000000000000 ≤ p.toInt ∧ p.toInt ≤ 1000000000000 ∧ (if q.toInt = 0 then p.toInt = 1 else Int.gcd p.toInt q.toInt = 1)
def wf_sh (J : pv_I) (s : Nat) : Prop := (J 6 s = 0 ∨ J 6 s = 1 ∨ J 6 s = 2) ∧ (J 6 s = 1 → (0 ≤ (J 7 s).toInt ∧ (J 7 s).toInt ≤ 3 ∧ 0 ≤ (J 8 s).toInt ∧ (J 8 s).toInt ≤ 160)) ∧ (J 6 s = 2 → (0 ≤ (J 9 s).toInt ∧ (J 9 s).toInt < (J 0 0).toInt))
def wf_fig (J : pv_I) (i : Nat) : Prop := (0 ≤ (J 1 i).toInt ∧ (J 1 i).toInt ≤ 6) ∧ (0 ≤ (J 2 i).toInt ∧ (J 2 i).toInt ≤ 9) ∧ (1 ≤ (J 3 i).toInt ∧ (J 3 i).toInt ≤ 9)
def WF (J : pv_I) (K : pv_L) : Prop := (0 ≤ (J 0 0).toInt ∧ (J 0 0).toInt ≤ 8) ∧ (∀ i : Nat, (i : Int) < (J 0 0).toInt → wf_fig J i) ∧ s_isN (K 0 0) (K 0 1) ∧ (∀ s, s < 8 → wf_sh J s) ∧
  (J 0 6 = 0 ∨ J 0 6 = 1) ∧ (J 0 6 = 1 → (0 ≤ (J 0 7).toInt ∧ (J 0 7).toInt ≤ (J 0 0).toInt) ∧ s_isN (K 0 2) (K 0 3))
def RMi (J : pv_I) (K : pv_L) (I : pv_I) (L : pv_L) : Prop := (∀ i : Nat, (i : Int) < (J 0 7).toInt → I 77 i = J 1 i ∧ I 77 (8 + i) = J 2 i ∧ I 77 (16 + i) = J 3 i) ∧ (∀ c, c < 4 → I 77 (24 + c) = J 5 c) ∧ I 77 28 = J 0 7 ∧ I 77 29 = J 0 8 ∧ I 77 30 = J 0 9 ∧ I 77 31 = J 0 10 ∧ L 79 0 = K 0 2 ∧ L 79 1 = K 0 3
def RM (J : pv_I) (K : pv_L) (I : pv_I) (L : pv_L) : Prop :=
  (I 61 0 = J 0 0 ∧ I 61 1 = J 0 1 ∧ I 61 2 = J 0 2 ∧ I 61 3 = J 0 3 ∧ I 61 4 = J 0 4 ∧ I 61 59 = J 0 5 ∧ I 61 60 = J 0 6 ∧ L 61 5 = K 0 0 ∧ L 61 6 = K 0 1) ∧
  (∀ i : Nat, (i : Int) < (J 0 0).toInt → I 63 i = J 1 i ∧ I 64 i = J 2 i ∧ I 65 i = J 3 i) ∧ (∀ c, c < 4 → I 66 c = J 4 c) ∧
  (∀ s, s < 8 → I 67 s = J 6 s ∧ I 68 s = J 7 s ∧ I 69 s = J 8 s ∧ I 70 s = J 9 s) ∧ (∀ k, k < 8 → I 62 k = J 10 k) ∧
  (∀ i : Nat, i < 20 → (i : Int) < (J 0 5).toInt → I 89 i = J 11 i) ∧ (∀ s, s < 8 → ∀ j, j < 160 → L 71 (160 * s + j) = K (1 + s) j) ∧
  (J 0 6 = 1 → RMi J K I L)
def kX (I : pv_I) (L : pv_L) (I1 : pv_I) (L1 : pv_L) : Prop := ∀ a, (a < 61 ∨ a = 74 ∨ 90 ≤ a) → I1 a = I a ∧ L1 a = L a
def kM (I : pv_I) (L : pv_L) (I1 : pv_I) (L1 : pv_L) : Prop := ∀ a, 61 ≤ a → a < 90 → I1 a = I a ∧ L1 a = L a
/-- what the reference's public methods end in -/
def qM (r : SR) (t : pv_T) (I : pv_I) (L : pv_L) (Rf : pv_R) : pv_Q := fun v t1 I1 L1 R1 => v = some r.1 ∧ t1 = t ∧ R1 = Rf ∧ RM r.2.1 r.2.2 I1 L1 ∧ kX I L I1 L1
theorem kX.rf {I : pv_I} {L : pv_L} : kX I L I L := fun _ _ => ⟨rfl, rfl⟩
theorem RM.congr {J : pv_I} {K : pv_L} {I I1 : pv_I} {L L1 : pv_L} (h : RM J K I L) (hk : kM I L I1 L1) : RM J K I1 L1 := by
  have e : ∀ a, 61 ≤ a → a < 90 → I1 a = I a := fun a h1 h2 => (hk a h1 h2).1
  have e2 : ∀ a, 61 ≤ a → a < 90 → L1 a = L a := fun a h1 h2 => (hk a h1 h2).2
  unfold RM RMi at h ⊢
  rw [e 61 (by decide) (by decide), e 62 (by decide) (by decide), e 63 (by decide) (by decide), e 64 (by decide) (by decide), e 65 (by decide) (by decide), e 66 (by decide) (by decide), e 67 (by decide) (by decide), e 68 (by decide) (by decide), e 69 (by decide) (by decide), e 70 (by decide) (by decide), e 77 (by decide) (by decide), e 89 (by decide) (by decide), e2 61 (by decide) (by decide), e2 71 (by decide) (by decide), e2 79 (by decide) (by decide)]
  exact h
def S_ref (J : pv_I) (K : pv_L) (k : Nat) (v : Value) : SR := (v, pv_u J 10 k (J 10 k + 1), K)
theorem RM.ref {J : pv_I} {K : pv_L} {I : pv_I} {L : pv_L} (h : RM J K I L) {k : Nat} (hk : k < 8) : RM (pv_u J 10 k (J 10 k + 1)) K (s_ref I k) L := by
  obtain ⟨h1, h2, h3, h4, h5, h6, h7, h8⟩ := h
  refine ⟨h1, h2, h3, h4, fun x hx => ?_, h6, h7, h8⟩
  show s_ref I k 62 x = pv_u J 10 k (J 10 k + 1) 10 x
  unfold s_ref
  rw [pv_u_eq, pv_u_eq, h5 k hk]
  split
  · rfl
  · exact h5 x hx
theorem kX.ref {I : pv_I} {L : pv_L} {k : Nat} : kX I L (s_ref I k) L := fun a h => ⟨pv_u_ne _ _ (by omega), rfl⟩
theorem qM.ref {J : pv_I} {K : pv_L} {I : pv_I} {L : pv_L} {t : pv_T} {Rf : pv_R} (h : RM J K I L) {k : Nat} (hk : k < 8) {v : Value} {r : SR} (hr : r = S_ref J K k v) : qM r t I L Rf (some v) t (s_ref I k) L Rf := by
  subst hr; exact ⟨rfl, rfl, rfl, h.ref hk, kX.ref⟩
theorem qM.same {J : pv_I} {K : pv_L} {I : pv_I} {L : pv_L} {t : pv_T} {Rf : pv_R} (h : RM J K I L) {v : Value} {r : SR} (hr : r = (v, J, K)) : qM r t I L Rf (some v) t I L Rf := by
  subst hr; exact ⟨rfl, rfl, rfl, h, kX.rf⟩
/-! the answers of simple calls, on worlds -/
def w_sh (J : pv_I) (s : Int32) : Int32 := J 6 s.toNatClampNeg
def w_wants (J : pv_I) (s : Int32) : Int32 := if s_sh s = true then (if w_sh J s = 2 then -2 else if w_sh J s = 0 then -3 else 0) else -1
def w_bars (J : pv_I) (s n : Int32) : Int32 := if w_wants J s = 0 then (if n < 0 then -4 else if J 8 s.toNatClampNeg < n then -5 else 0) else w_wants J s
theorem RM.wants {J : pv_I} {K : pv_L} {I : pv_I} {L : pv_L} (h : RM J K I L) (s : Int32) : s_wants I s = w_wants J s := by
  unfold s_wants w_wants w_sh
  by_cases hs : s_sh s = true
  · rw [(h.2.2.2.1 _ (pv_in_lt (s_sh_in hs)).2.2.1).1]
  · rw [if_neg hs, if_neg hs]
theorem w_wants_0 {J : pv_I} {s : Int32} (h : w_wants J s = 0) : vp_in s 8 ∧ ¬ w_sh J s = 2 ∧ ¬ w_sh J s = 0 := by
  unfold w_wants at h
  split at h
  · rename_i h1
    split at h
    · exact absurd h (by decide)
    · split at h
      · exact absurd h (by decide)
      · exact ⟨s_sh_in h1, by assumption, by assumption⟩
  · exact absurd h (by decide)
theorem RM.bars {J : pv_I} {K : pv_L} {I : pv_I} {L : pv_L} (h : RM J K I L) (s n : Int32) : s_bars I s n = w_bars J s n := by
  unfold s_bars w_bars
  rw [h.wants]
  by_cases hw : w_wants J s = 0
  · rw [if_pos hw, if_pos hw, (h.2.2.2.1 _ (pv_in_lt (w_wants_0 hw).1).2.2.1).2.2.1]
  · rw [if_neg hw, if_neg hw]
def S_element (J : pv_I) (K : pv_L) (s i : Int32) : SR := (.long (if s_sh s = true ∧ w_sh J s = 1 ∧ 0 ≤ i ∧ i < J 8 s.toNatClampNeg then K (1 + s.toNatClampNeg) i.toNatClampNeg else 0), J, K)
def S_holds (J : pv_I) (K : pv_L) (s : Int32) : SR := (.int (if s_sh s = true then (if w_sh J s = 0 then -1 else if w_sh J s = 1 then 100 + J 7 s.toNatClampNeg else J 9 s.toNatClampNeg) else -1), J, K)
def S_figureOf (J : pv_I) (K : pv_L) (f x : Int32) : SR := if 0 ≤ f ∧ f < J 0 0 ∧ 0 ≤ x ∧ x ≤ 2 then (.int (if x = 0 then J 1 f.toNatClampNeg else if x = 1 then J 2 f.toNatClampNeg else J 3 f.toNatClampNeg), J, K) else S_ref J K 5 (.int (-5))
def S_fault (J : pv_I) (K : pv_L) : SR := (.int (J 0 4), J, K)
def S_now (J : pv_I) (K : pv_L) (x : Int32) : SR := if x = 0 then (.long (K 0 0), J, K) else if x = 1 then (.long (K 0 1), J, K) else S_ref J K 5 (.long (-2000000000005))
def S_stand (J : pv_I) (K : pv_L) (c : Int32) : SR := if 0 ≤ c ∧ c < 4 then (.int (J 4 c.toNatClampNeg), J, K) else S_ref J K 5 (.int (-5))
def S_seed (J : pv_I) (K : pv_L) (v : Int32) : SR := (.int (J 0 3), pv_u J 0 3 v, K)
def S_closed (J : pv_I) (K : pv_L) (o : Bool) : SR := (.int (if (if o then K 0 1 else K 0 0) % 2 = 0 then 2 else 1), J, K)
def S_trace (J : pv_I) (K : pv_L) (i : Int32) : SR := (.int (if 0 ≤ i ∧ i < 20 ∧ i < J 0 5 then J 11 i.toNatClampNeg else -1), J, K)
def S_status (J : pv_I) (K : pv_L) (x : Int32) : SR := (.int (if 11 ≤ x ∧ x ≤ 17 then J 10 (x - 10).toNatClampNeg else if x = 0 then J 0 0 else if x = 1 then J 0 1 else if x = 2 then J 0 2 else if x = 3 then J 0 3 else if x = 4 then J 0 5 else -1), J, K)

