/-! the class: barn -/
theorem jF.tr {J J1 J2 : pv_I} (h : jF J J1) (g : jF J1 J2) : jF J J2 := fun a j h1 h2 h3 h4 h5 => (g a j h1 h2 h3 h4 h5).trans (h a j h1 h2 h3 h4 h5)
theorem kF.tr {K K1 K2 : pv_L} (h : kF K K1) (g : kF K1 K2) : kF K K2 := fun a j h1 => (g a j h1).trans (h a j h1)
theorem b_run_fr {c : Nat → Int32} {e : Nat} : ∀ (m r n : Nat) (J : pv_I) (K : pv_L) {n1 : Nat} {J2 : pv_I} {K2 : pv_L}, WF J K → r ≤ e → b_run c e m r n J K = .ok (n1, J2, K2) → jF J J2 ∧ kF K K2 ∧ n1 ≤ n + m
  | 0, r, n, J, K, n1, J2, K2, hW, hr, h => by rw [b_run] at h; cases h
  | m + 1, r, n, J, K, n1, J2, K2, hW, hr, h => by
    rw [b_run] at h
    split at h
    · next h1 =>
      split at h
      · cases hi : b_item c e (r + 1) J K with
        | error x => rw [hi] at h; cases h
        | ok y =>
          obtain ⟨y1, y2, y3⟩ := y
          rw [hi] at h
          have hk := b_item_ok hW (by omega) hi
          have hf := x_itm_fr (by rw [x_itm_b c e (r + 1) hW]; exact hi)
          obtain ⟨g1, g2, g3⟩ := b_run_fr m y1 (n + 1) y2 y3 hk.1 hk.2.2.1 h
          exact ⟨hf.1.tr g1, hf.2.1.tr g2, by omega⟩
      · cases h
    · cases h; exact ⟨fun _ _ _ _ _ _ _ => rfl, fun _ _ _ => rfl, by omega⟩
theorem x_bl_fr {c : Nat → Int32} {e m r n : Nat} {J : pv_I} {K : pv_L} {n1 : Nat} {J2 : pv_I} {K2 : pv_L} (hW : WF J K) (hr : r ≤ e) (h : x_bl c e m r n J K = .ok (n1, J2, K2)) : jF J J2 ∧ kF K K2 ∧ n1 ≤ n + m := by
  unfold x_bl at h
  cases hi : b_item c e r J K with
  | error x => rw [hi] at h; cases h
  | ok y =>
    obtain ⟨y1, y2, y3⟩ := y
    rw [hi] at h
    have hk := b_item_ok hW hr hi
    have hf := x_itm_fr (by rw [x_itm_b c e r hW]; exact hi)
    obtain ⟨g1, g2, g3⟩ := b_run_fr m y1 n y2 y3 hk.1 hk.2.2.1 h
    exact ⟨hf.1.tr g1, hf.2.1.tr g2, g3⟩
theorem b_barn_x (c : Nat → Int32) (e : Nat) (J : pv_I) (K : pv_L) : b_barn c e J K = x_bl c e (e + 1) 0 1 J K := by
  unfold b_barn x_bl
  cases b_item c e 0 J K <;> rfl
/-- the world behind a barn that was read -/
theorem RX.barn {J J2 : pv_I} {K K2 : pv_L} {t0 t : pv_T} {I0 I I1 : pv_I} {L0 L L1 : pv_L} {Rf0 Rf : pv_R} {k e r : Nat} {c : Nat → Int32} (h : RX J K t0 I0 L0 Rf0) (hk8 : k < 8) (hb : tB J t0 I0 L0 Rf0 k e c J2 K2 t I L Rf r) (fj : jF (pv_u J 0 4 (-1)) J2) (fk : kF K K2) (f : fH 21 (pv_u I 16 12 (-1)) L I1 L1) (hx : XHw 21 (J2 0 0) (J2 0 1) (J2 0 2) (J2 0 3) (K2 0 0) (K2 0 1) (J2 4) I1 L1) : RX J2 K2 t I1 L1 Rf := by
  obtain ⟨h1, h2, h3, h4, h5, h6, h7⟩ := h
  obtain ⟨a1, a2, a3, a4, a5, a6, a7, a8⟩ := hb
  have h90 := h1.1
  have eI : ∀ a j, a < 90 → a ≠ 25 → a ≠ 26 → a ≠ 21 → a ≠ 22 → ¬ (a = 16 ∧ j = 12) → ¬ (a = 45 + 2 * k ∧ 4 ≤ j) → I1 a j = I0 a j := fun a j q0 q1 q2 q3 q4 q5 q6 => by
    rw [f.1 a j q3 q4, pv_u_o _ q5]; exact a2 a j (by omega) q1 q2 q6
  have eL : ∀ a j, a < 90 → a ≠ 25 → a ≠ 21 → L1 a j = L0 a j := fun a j q0 q1 q2 => by rw [f.2 a j q2]; exact a3 a j (by omega) q1
  have jj : ∀ a j, a ≠ 1 → a ≠ 2 → a ≠ 3 → a ≠ 4 → ¬ (a = 0 ∧ j < 3) → ¬ (a = 0 ∧ j = 4) → J2 a j = J a j := fun a j q1 q2 q3 q4 q5 q6 => by rw [fj a j q1 q2 q3 q4 q5, pv_u_o _ q6]
  have ja : ∀ a, 5 ≤ a → J2 a = J a := fun a q => funext fun j => jj a j (by omega) (by omega) (by omega) (by omega) (by omega) (by omega)
  have j0 : ∀ j, 5 ≤ j → J2 0 j = J 0 j := fun j q => jj 0 j (by decide) (by decide) (by decide) (by decide) (by omega) (by omega)
  have j4 : J2 0 4 = -1 := by rw [fj 0 4 (by decide) (by decide) (by decide) (by decide) (by omega), pv_u_eq, if_pos rfl]
  refine ⟨a1.sh h1, a1.re h1 h2, hx, ?_, fun s hs => ?_, ⟨fun i hi => ?_, ?_, ?_, ?_, fun i q1 q2 => ?_⟩, fun q => ?_⟩
  · exact XF.cg a6 (fun a j q => by rw [f.1 a j (by omega) (by omega), pv_u_o _ (by omega)])
  · have g := (h5 s hs).cg (I1 := I1) (L1 := L1) (fun j hj => eI _ j (by omega) (by omega) (by omega) (by omega) (by omega) (by omega) (by omega)) (fun j => eL _ j (by omega) (by omega) (by omega))
    unfold XS at g ⊢
    rw [ja 6 (by decide), ja 7 (by decide), ja 8 (by decide), ja 9 (by decide)]
    refine ⟨g.1, fun q => ?_, g.2.2⟩
    obtain ⟨g1, g2, g3, g4⟩ := g.2.1 q
    exact ⟨g1, g2, g3, fun j hj => by rw [fk _ j (by omega)]; exact g4 j hj⟩
  · rw [eI 19 i (by decide) (by decide) (by decide) (by decide) (by decide) (by omega) (by omega), ja 10 (by decide)]; exact h6.1 i hi
  · rw [j4, f.1 16 12 (by decide) (by decide), pv_u_eq, if_pos rfl]
  · rw [eI 16 11 (by decide) (by decide) (by decide) (by decide) (by decide) (by omega) (by omega), j0 6 (by decide)]; exact h6.2.2.1
  · rw [eI 20 0 (by decide) (by decide) (by decide) (by decide) (by decide) (by omega) (by omega), j0 5 (by decide)]; exact h6.2.2.2.1
  · rw [j0 5 (by decide)] at q2
    rw [eI 20 _ (by decide) (by decide) (by decide) (by decide) (by decide) (by omega) (by omega), ja 11 (by decide)]; exact h6.2.2.2.2 i q1 q2
  · rw [j0 6 (by decide)] at q
    rw [j0 7 (by decide), j0 8 (by decide), j0 9 (by decide), j0 10 (by decide), fk 0 2 (by omega), fk 0 3 (by omega), ja 5 (by decide)]
    exact (h7 q).cg (fun j => eI 23 j (by decide) (by decide) (by decide) (by decide) (by decide) (by omega) (by omega)) (fun j => eI 24 j (by decide) (by decide) (by decide) (by decide) (by decide) (by omega) (by omega)) (fun j => eL 23 j (by decide) (by decide) (by decide))
/-- the world behind a barn with a fault -/
theorem RX.fault {J : pv_I} {K : pv_L} {t0 t : pv_T} {I0 I : pv_I} {L0 L : pv_L} {Rf0 Rf : pv_R} {k x : Nat} (h : RX J K t0 I0 L0 Rf0) (hk8 : k < 8) (hb : tE J t0 I0 L0 Rf0 k x t I L Rf) (v : Int32) : RX (pv_u J 0 4 v) K t (pv_u I 16 12 v) L Rf := by
  obtain ⟨h1, h2, h3, h4, h5, h6, h7⟩ := h
  obtain ⟨a1, a2, a3, a4⟩ := hb
  have h90 := h1.1
  have eI : ∀ a j, a < 90 → a ≠ 25 → a ≠ 26 → ¬ (a = 16 ∧ j = 12) → ¬ (a = 45 + 2 * k ∧ 4 ≤ j) → pv_u I 16 12 v a j = I0 a j := fun a j q0 q1 q2 q5 q6 => by
    rw [pv_u_o _ q5]; exact a2 a j (by omega) q1 q2 q6
  have eL : ∀ a j, a < 90 → a ≠ 25 → L a j = L0 a j := fun a j q0 q1 => a3 a j (by omega) q1
  have ja : ∀ a, a ≠ 0 → pv_u J 0 4 v a = J a := fun a q => funext fun j => pv_u_o _ (by omega)
  have j0 : ∀ j, j ≠ 4 → pv_u J 0 4 v 0 j = J 0 j := fun j q => pv_u_o _ (by omega)
  refine ⟨a1.sh h1, a1.re h1 h2, ?_, ?_, fun s hs => ?_, ⟨fun i hi => ?_, ?_, ?_, ?_, fun i q1 q2 => ?_⟩, fun q => ?_⟩
  · rw [j0 0 (by decide), j0 1 (by decide), j0 2 (by decide), j0 3 (by decide), ja 4 (by decide)]
    exact h3.cg (fun j => eI 21 j (by decide) (by decide) (by decide) (by omega) (by omega)) (fun j => eI 22 j (by decide) (by decide) (by decide) (by omega) (by omega)) (fun j => eL 21 j (by decide) (by decide))
  · have g := h4.al h1 a1 (Int.le_refl _) (I1 := pv_u I 16 12 v) (fun a j q1 q2 => by rw [pv_u_o _ (by omega)]; exact a2 a j q2 (by omega) (by omega) (by omega))
    intro i hi
    rw [j0 0 (by decide)] at hi
    rw [ja 1 (by decide), ja 2 (by decide), ja 3 (by decide)]
    exact g i hi
  · have g := (h5 s hs).cg (I1 := pv_u I 16 12 v) (L1 := L) (fun j hj => eI _ j (by omega) (by omega) (by omega) (by omega) (by omega)) (fun j => eL _ j (by omega) (by omega))
    unfold XS at g ⊢
    rw [ja 6 (by decide), ja 7 (by decide), ja 8 (by decide), ja 9 (by decide)]
    exact g
  · rw [eI 19 i (by decide) (by decide) (by decide) (by omega) (by omega), ja 10 (by decide)]; exact h6.1 i hi
  · rw [pv_u_eq, if_pos rfl, pv_u_eq, if_pos rfl]
  · rw [eI 16 11 (by decide) (by decide) (by decide) (by omega) (by omega), j0 6 (by decide)]; exact h6.2.2.1
  · rw [eI 20 0 (by decide) (by decide) (by decide) (by omega) (by omega), j0 5 (by decide)]; exact h6.2.2.2.1
  · rw [j0 5 (by decide)] at q2
    rw [eI 20 _ (by decide) (by decide) (by decide) (by omega) (by omega), ja 11 (by decide)]; exact h6.2.2.2.2 i q1 q2
  · rw [j0 6 (by decide)] at q
    rw [j0 7 (by decide), j0 8 (by decide), j0 9 (by decide), j0 10 (by decide), ja 5 (by decide)]
    exact (h7 q).cg (fun j => eI 23 j (by decide) (by decide) (by decide) (by omega) (by omega)) (fun j => eI 24 j (by decide) (by decide) (by decide) (by omega) (by omega)) (fun j => eL 23 j (by decide) (by decide))

