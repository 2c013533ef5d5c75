/-! the first worlds -/
def w_J0 : pv_I := fun a j => if a = 0 ∧ j = 3 then 1 else if a = 0 ∧ j = 4 then -1 else if a = 4 then Int32.ofNat j else 0
def w_K0 : pv_L := fun a j => if a = 0 ∧ j = 1 then 1 else 0
theorem wf_0 : WF w_J0 w_K0 := by
  refine ⟨⟨by decide, by decide⟩, fun i hi => ?_, ⟨by decide, by decide, by decide, by decide, by decide⟩, fun s hs => ⟨Or.inl rfl, fun q => ?_, fun q => ?_⟩, Or.inl rfl, fun q => ?_⟩
  · have h0 : (w_J0 0 0).toInt = 0 := by decide
    omega
  · exact absurd (show (0 : Int32) = 1 from q) (by decide)
  · exact absurd (show (0 : Int32) = 2 from q) (by decide)
  · exact absurd (show (0 : Int32) = 1 from q) (by decide)
theorem x_at0.cg {I I1 : pv_I} {L L1 : pv_L} {Rf R1 : pv_R} (h : x_at0 I L Rf) (k : ∀ a, a < 61 → I1 a = I a ∧ L1 a = L a ∧ R1 a = Rf a) : x_at0 I1 L1 R1 := by
  unfold x_at0 at h ⊢
  rw [(k 19 (by decide)).1, (k 16 (by decide)).1, (k 20 (by decide)).1, (k 21 (by decide)).1, (k 21 (by decide)).2.1, (k 22 (by decide)).1, (k 45 (by decide)).1, (k 47 (by decide)).1, (k 49 (by decide)).1, (k 51 (by decide)).1, (k 53 (by decide)).1, (k 55 (by decide)).1, (k 57 (by decide)).1, (k 59 (by decide)).1]
  obtain ⟨h1, h2, h3, h4, h5, h6⟩ := h
  refine ⟨h1, h2, h3, h4, h5, fun q hq => ?_⟩
  have e : ∀ q ∈ rf_A, q.1 < 61 := by decide
  rw [(k q.1 (e q hq)).2.2]; exact h6 q hq
theorem rx_0 {G : pv_G} {I : pv_I} {L : pv_L} {Rf : pv_R} (h : x_at0 I L Rf) (g : m_at0 I L Rf) : RX w_J0 w_K0 (pv_tl G 74) I L Rf := by
  obtain ⟨h1, ⟨h2, h3, h4⟩, ⟨a1, a2, a3, a4, a5, a6⟩, ⟨b1, b2, b3, b4⟩, ⟨⟨s45, s45', s45''⟩, ⟨s47, s47', s47''⟩, ⟨s49, s49', s49''⟩, ⟨s51, s51', s51''⟩, ⟨s53, s53', s53''⟩, ⟨s55, s55', s55''⟩, ⟨s57, s57', s57''⟩, ⟨s59, s59', s59''⟩⟩, h6⟩ := h
  have hrf : rf_ok Rf := by
    intro q hq
    rw [rf_AB] at hq
    rcases List.mem_append.mp hq with r | r
    · exact h6 q r
    · exact g.2.2.2.2.2 q r
  refine ⟨tl_ok, hrf, ⟨a1, a2, a3, a4, a5, a6, fun j hj => ?_⟩, fun i hi => ?_, fun s hs => ?_, ⟨h1, h2, h3, h4, fun i _ hi => ?_⟩, fun q => absurd (show (0 : Int32) = 1 from q) (by decide)⟩
  · rcases (by omega : j = 0 ∨ j = 1 ∨ j = 2 ∨ j = 3) with rfl | rfl | rfl | rfl
    · exact b1
    · exact b2
    · exact b3
    · exact b4
  · have h0 : (w_J0 0 0).toInt = 0 := by decide
    omega
  · refine ⟨fun _ => ?_, fun q => absurd (show (0 : Int32) = 1 from q) (by decide), fun q => absurd (show (0 : Int32) = 2 from q) (by decide)⟩
    rcases (by omega : s = 0 ∨ s = 1 ∨ s = 2 ∨ s = 3 ∨ s = 4 ∨ s = 5 ∨ s = 6 ∨ s = 7) with rfl | rfl | rfl | rfl | rfl | rfl | rfl | rfl
    · exact ⟨s45, s45', s45''⟩
    · exact ⟨s47, s47', s47''⟩
    · exact ⟨s49, s49', s49''⟩
    · exact ⟨s51, s51', s51''⟩
    · exact ⟨s53, s53', s53''⟩
    · exact ⟨s55, s55', s55''⟩
    · exact ⟨s57, s57', s57''⟩
    · exact ⟨s59, s59', s59''⟩
  · have h0 : (w_J0 0 5).toInt = 0 := by decide
    omega
theorem rm_0 {I : pv_I} {L : pv_L} {Rf : pv_R} (g : m_at0 I L Rf) : RM w_J0 w_K0 I L := by
  obtain ⟨⟨a1, a2, a3, a4, a5, a6, a7, a8, a9⟩, ⟨b1, b2, b3, b4⟩, c, e, -, -⟩ := g
  refine ⟨⟨a1, a2, a3, a4, a5, a6, a7, a8, a9⟩, fun i hi => ?_, fun j hj => ?_, fun s _ => ⟨(c s).1, (c s).2.1, (c s).2.2.1, (c s).2.2.2.1⟩, fun k _ => (c k).2.2.2.2, fun i _ hi => ?_, fun s _ j _ => ?_, fun q => absurd (show (0 : Int32) = 1 from q) (by decide)⟩
  · have h0 : (w_J0 0 0).toInt = 0 := by decide
    omega
  · rcases (by omega : j = 0 ∨ j = 1 ∨ j = 2 ∨ j = 3) with rfl | rfl | rfl | rfl
    · exact b1
    · exact b2
    · exact b3
    · exact b4
  · have h0 : (w_J0 0 5).toInt = 0 := by decide
    omega
  · rw [e]
    show 0 = if 1 + s = 0 ∧ j = 1 then 1 else 0
    rw [if_neg (by omega)]
/-! both sides, hand in hand -/
theorem RX.kX {J : pv_I} {K : pv_L} {t : pv_T} {I I1 : pv_I} {L L1 : pv_L} {Rf : pv_R} (h : RX J K t I L Rf) (k : kX I L I1 L1) : RX J K t I1 L1 Rf := by
  obtain ⟨h1, h2, h3, h4, h5, h6, h7⟩ := h
  have e : ∀ a, (a < 61 ∨ a = 74 ∨ 90 ≤ a) → I1 a = I a := fun a q => (k a q).1
  have e2 : ∀ a, (a < 61 ∨ a = 74 ∨ 90 ≤ a) → L1 a = L a := fun a q => (k a q).2
  refine ⟨h1, h2, h3.cg (fun j => by rw [e 21 (by omega)]) (fun j => by rw [e (21 + 1) (by omega)]) (fun j => by rw [e2 21 (by omega)]), XF.cg h4 (fun a j q => by rw [e a (by omega)]), fun s hs => (h5 s hs).cg (fun j _ => by rw [e _ (by omega)]) (fun j => by rw [e2 _ (by omega)]), ?_, fun q => (h7 q).cg (fun j => by rw [e 23 (by omega)]) (fun j => by rw [e (23 + 1) (by omega)]) (fun j => by rw [e2 23 (by omega)])⟩
  unfold XB at h6 ⊢
  rw [e 19 (by omega), e 16 (by omega), e 20 (by omega)]; exact h6

