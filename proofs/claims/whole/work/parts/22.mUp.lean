/-! switches -/
section PVTAB
variable {G : pv_G} {M : pv_Mth} {d mc ms : Nat} {bc bs pc : Nat} {Q : pv_Q} {ls st : List Value} {t : pv_T} {I : pv_I} {L : pv_L} {Rf : pv_R}
theorem pv_tab3 {dflt lo : Int} {o0 o1 o2 : Int} {len : Nat} {x : Int32} {t0 t1 t2 t3 : Nat} (hd : decode M.2.1 pc = .ok (.tableswitch dflt lo (lo + 2) #[o0, o1, o2], len)) (h0 : (pc : Int) + o0 = (t0 : Int)) (h1 : (pc : Int) + o1 = (t1 : Int)) (h2 : (pc : Int) + o2 = (t2 : Int)) (hx : (pc : Int) + dflt = (t3 : Int)) (k0 : x.toInt = lo + 0 → pv_V G M d mc ms Q bc bs t0 ls st t I L Rf) (k1 : x.toInt = lo + 1 → pv_V G M d mc ms Q bc bs t1 ls st t I L Rf) (k2 : x.toInt = lo + 2 → pv_V G M d mc ms Q bc bs t2 ls st t I L Rf) (kd : (x.toInt < lo ∨ lo + 2 < x.toInt) → pv_V G M d mc ms Q bc bs t3 ls st t I L Rf) : pv_V G M d mc ms Q bc bs pc ls (.int x :: st) t I L Rf := by
  by_cases g1 : x.toInt < lo
  · exact pv_tableOut hd (Or.inl g1) hx (kd (Or.inl g1))
  by_cases g2 : lo + 2 < x.toInt
  · exact pv_tableOut hd (Or.inr g2) hx (kd (Or.inr g2))
  by_cases e0 : x.toInt = lo + 0
  · exact pv_tableIn hd g1 g2 (off := o0) (by rw [e0, show (lo + 0 - lo).toNat = 0 by omega]; rfl) h0 (k0 e0)
  by_cases e1 : x.toInt = lo + 1
  · exact pv_tableIn hd g1 g2 (off := o1) (by rw [e1, show (lo + 1 - lo).toNat = 1 by omega]; rfl) h1 (k1 e1)
  by_cases e2 : x.toInt = lo + 2
  · exact pv_tableIn hd g1 g2 (off := o2) (by rw [e2, show (lo + 2 - lo).toNat = 2 by omega]; rfl) h2 (k2 e2)
  omega
theorem pv_tab5 {dflt lo : Int} {o0 o1 o2 o3 o4 : Int} {len : Nat} {x : Int32} {t0 t1 t2 t3 t4 t5 : Nat} (hd : decode M.2.1 pc = .ok (.tableswitch dflt lo (lo + 4) #[o0, o1, o2, o3, o4], len)) (h0 : (pc : Int) + o0 = (t0 : Int)) (h1 : (pc : Int) + o1 = (t1 : Int)) (h2 : (pc : Int) + o2 = (t2 : Int)) (h3 : (pc : Int) + o3 = (t3 : Int)) (h4 : (pc : Int) + o4 = (t4 : Int)) (hx : (pc : Int) + dflt = (t5 : Int)) (k0 : x.toInt = lo + 0 → pv_V G M d mc ms Q bc bs t0 ls st t I L Rf) (k1 : x.toInt = lo + 1 → pv_V G M d mc ms Q bc bs t1 ls st t I L Rf) (k2 : x.toInt = lo + 2 → pv_V G M d mc ms Q bc bs t2 ls st t I L Rf) (k3 : x.toInt = lo + 3 → pv_V G M d mc ms Q bc bs t3 ls st t I L Rf) (k4 : x.toInt = lo + 4 → pv_V G M d mc ms Q bc bs t4 ls st t I L Rf) (kd : (x.toInt < lo ∨ lo + 4 < x.toInt) → pv_V G M d mc ms Q bc bs t5 ls st t I L Rf) : pv_V G M d mc ms Q bc bs pc ls (.int x :: st) t I L Rf := by
  by_cases g1 : x.toInt < lo
  · exact pv_tableOut hd (Or.inl g1) hx (kd (Or.inl g1))
  by_cases g2 : lo + 4 < x.toInt
  · exact pv_tableOut hd (Or.inr g2) hx (kd (Or.inr g2))
  by_cases e0 : x.toInt = lo + 0
  · exact pv_tableIn hd g1 g2 (off := o0) (by rw [e0, show (lo + 0 - lo).toNat = 0 by omega]; rfl) h0 (k0 e0)
  by_cases e1 : x.toInt = lo + 1
  · exact pv_tableIn hd g1 g2 (off := o1) (by rw [e1, show (lo + 1 - lo).toNat = 1 by omega]; rfl) h1 (k1 e1)
  by_cases e2 : x.toInt = lo + 2
  · exact pv_tableIn hd g1 g2 (off := o2) (by rw [e2, show (lo + 2 - lo).toNat = 2 by omega]; rfl) h2 (k2 e2)
  by_cases e3 : x.toInt = lo + 3
  · exact pv_tableIn hd g1 g2 (off := o3) (by rw [e3, show (lo + 3 - lo).toNat = 3 by omega]; rfl) h3 (k3 e3)
  by_cases e4 : x.toInt = lo + 4
  · exact pv_tableIn hd g1 g2 (off := o4) (by rw [e4, show (lo + 4 - lo).toNat = 4 by omega]; rfl) h4 (k4 e4)
  omega
theorem pv_tab6 {dflt lo : Int} {o0 o1 o2 o3 o4 o5 : Int} {len : Nat} {x : Int32} {t0 t1 t2 t3 t4 t5 t6 : Nat} (hd : decode M.2.1 pc = .ok (.tableswitch dflt lo (lo + 5) #[o0, o1, o2, o3, o4, o5], len)) (h0 : (pc : Int) + o0 = (t0 : Int)) (h1 : (pc : Int) + o1 = (t1 : Int)) (h2 : (pc : Int) + o2 = (t2 : Int)) (h3 : (pc : Int) + o3 = (t3 : Int)) (h4 : (pc : Int) + o4 = (t4 : Int)) (h5 : (pc : Int) + o5 = (t5 : Int)) (hx : (pc : Int) + dflt = (t6 : Int)) (k0 : x.toInt = lo + 0 → pv_V G M d mc ms Q bc bs t0 ls st t I L Rf) (k1 : x.toInt = lo + 1 → pv_V G M d mc ms Q bc bs t1 ls st t I L Rf) (k2 : x.toInt = lo + 2 → pv_V G M d mc ms Q bc bs t2 ls st t I L Rf) (k3 : x.toInt = lo + 3 → pv_V G M d mc ms Q bc bs t3 ls st t I L Rf) (k4 : x.toInt = lo + 4 → pv_V G M d mc ms Q bc bs t4 ls st t I L Rf) (k5 : x.toInt = lo + 5 → pv_V G M d mc ms Q bc bs t5 ls st t I L Rf) (kd : (x.toInt < lo ∨ lo + 5 < x.toInt) → pv_V G M d mc ms Q bc bs t6 ls st t I L Rf) : pv_V G M d mc ms Q bc bs pc ls (.int x :: st) t I L Rf := by
  by_cases g1 : x.toInt < lo
  · exact pv_tableOut hd (Or.inl g1) hx (kd (Or.inl g1))
  by_cases g2 : lo + 5 < x.toInt
  · exact pv_tableOut hd (Or.inr g2) hx (kd (Or.inr g2))
  by_cases e0 : x.toInt = lo + 0
  · exact pv_tableIn hd g1 g2 (off := o0) (by rw [e0, show (lo + 0 - lo).toNat = 0 by omega]; rfl) h0 (k0 e0)
  by_cases e1 : x.toInt = lo + 1
  · exact pv_tableIn hd g1 g2 (off := o1) (by rw [e1, show (lo + 1 - lo).toNat = 1 by omega]; rfl) h1 (k1 e1)
  by_cases e2 : x.toInt = lo + 2
  · exact pv_tableIn hd g1 g2 (off := o2) (by rw [e2, show (lo + 2 - lo).toNat = 2 by omega]; rfl) h2 (k2 e2)
  by_cases e3 : x.toInt = lo + 3
  · exact pv_tableIn hd g1 g2 (off := o3) (by rw [e3, show (lo + 3 - lo).toNat = 3 by omega]; rfl) h3 (k3 e3)
  by_cases e4 : x.toInt = lo + 4
  · exact pv_tableIn hd g1 g2 (off := o4) (by rw [e4, show (lo + 4 - lo).toNat = 4 by omega]; rfl) h4 (k4 e4)
  by_cases e5 : x.toInt = lo + 5
  · exact pv_tableIn hd g1 g2 (off := o5) (by rw [e5, show (lo + 5 - lo).toNat = 5 by omega]; rfl) h5 (k5 e5)
  omega
end PVTAB
/-! scratch: what no world shows -/
def kS (I : pv_I) (L : pv_L) (I1 : pv_I) (L1 : pv_L) : Prop := (∀ j, j < 5 ∨ j = 59 ∨ j = 60 → I1 61 j = I 61 j) ∧ L1 61 5 = L 61 5 ∧ L1 61 6 = L 61 6 ∧ (∀ a, (a < 61 ∨ (62 ≤ a ∧ a ≤ 70) ∨ a = 74 ∨ a = 77 ∨ a = 89 ∨ 90 ≤ a) → I1 a = I a) ∧ (∀ a, (a < 61 ∨ a = 71 ∨ a = 74 ∨ a = 79 ∨ 90 ≤ a) → L1 a = L a)
theorem kS.rf {I : pv_I} {L : pv_L} : kS I L I L := ⟨fun _ _ => rfl, rfl, rfl, fun _ _ => rfl, fun _ _ => rfl⟩
theorem kS.tr {I I1 I2 : pv_I} {L L1 L2 : pv_L} (h : kS I L I1 L1) (g : kS I1 L1 I2 L2) : kS I L I2 L2 :=
  ⟨fun j hj => (g.1 j hj).trans (h.1 j hj), g.2.1.trans h.2.1, g.2.2.1.trans h.2.2.1, fun a ha => (g.2.2.2.1 a ha).trans (h.2.2.2.1 a ha), fun a ha => (g.2.2.2.2 a ha).trans (h.2.2.2.2 a ha)⟩
theorem kS.uI {I I1 : pv_I} {L L1 : pv_L} (h : kS I L I1 L1) (a j : Nat) (v : Int32) (hn : (a = 61 ∧ 5 ≤ j ∧ j < 59) ∨ (71 ≤ a ∧ a ≤ 88 ∧ a ≠ 77 ∧ a ≠ 74)) : kS I L (pv_u I1 a j v) L1 := by
  refine ⟨fun x hx => ?_, h.2.1, h.2.2.1, fun b hb => ?_, h.2.2.2.2⟩
  · rw [← h.1 x hx, pv_u_app, if_neg (by omega)]
  · rw [← h.2.2.2.1 b hb]; funext x; rw [pv_u_app, if_neg (by omega)]
theorem kS.uL {I I1 : pv_I} {L L1 : pv_L} (h : kS I L I1 L1) (a j : Nat) (v : Int64) (hn : (a = 61 ∧ 7 ≤ j) ∨ (72 ≤ a ∧ a ≤ 89 ∧ a ≠ 79 ∧ a ≠ 74)) : kS I L I1 (pv_u L1 a j v) := by
  refine ⟨h.1, ?_, ?_, h.2.2.2.1, fun b hb => ?_⟩
  · rw [← h.2.1, pv_u_app, if_neg (by omega)]
  · rw [← h.2.2.1, pv_u_app, if_neg (by omega)]
  · rw [← h.2.2.2.2 b hb]; funext x; rw [pv_u_app, if_neg (by omega)]
theorem kS.at {I I1 : pv_I} {L L1 : pv_L} (h : kS I L I1 L1) (c : Nat → Int32) : kS I L (m_at I1 c) L1 :=
  (((h.uI 73 0 (c 0) (by decide)).uI 73 1 (c 1) (by decide)).uI 73 2 (c 2) (by decide)).uI 73 3 (c 3) (by decide)
theorem kS.pq {I I1 : pv_I} {L L1 : pv_L} (h : kS I L I1 L1) (p q : Int64) : kS I L I1 (m_pq L1 p q) :=
  (h.uL 61 18 p (by decide)).uL 61 19 q (by decide)
theorem RM.scr {J : pv_I} {K : pv_L} {I I1 : pv_I} {L L1 : pv_L} (h : RM J K I L) (k : kS I L I1 L1) : RM J K I1 L1 := by
  obtain ⟨k1, k2, k3, k4, k5⟩ := k
  unfold RM RMi at h ⊢
  rw [k1 0 (by decide), k1 1 (by decide), k1 2 (by decide), k1 3 (by decide), k1 4 (by decide), k1 59 (by decide), k1 60 (by decide), k2, k3, k4 63 (by decide), k4 64 (by decide), k4 65 (by decide), k4 66 (by decide), k4 67 (by decide), k4 68 (by decide), k4 69 (by decide), k4 70 (by decide), k4 62 (by decide), k4 89 (by decide), k4 77 (by decide), k5 71 (by decide), k5 79 (by decide)]
  exact h
theorem kS.kX {I I1 : pv_I} {L L1 : pv_L} (k : kS I L I1 L1) : kX I L I1 L1 := fun a h => ⟨k.2.2.2.1 a (by omega), k.2.2.2.2 a (by omega)⟩
theorem kX.tr {I I1 I2 : pv_I} {L L1 L2 : pv_L} (h : kX I L I1 L1) (g : kX I1 L1 I2 L2) : kX I L I2 L2 := fun a ha => ⟨(g a ha).1.trans (h a ha).1, (g a ha).2.trans (h a ha).2⟩
theorem kX.uI {I I1 : pv_I} {L L1 : pv_L} (h : kX I L I1 L1) (a j : Nat) (v : Int32) (ha : 61 ≤ a ∧ a < 90 ∧ a ≠ 74) : kX I L (pv_u I1 a j v) L1 := fun b hb => ⟨by rw [← (h b hb).1]; exact pv_u_ne _ _ (by omega), (h b hb).2⟩
theorem kX.uL {I I1 : pv_I} {L L1 : pv_L} (h : kX I L I1 L1) (a j : Nat) (v : Int64) (ha : 61 ≤ a ∧ a < 90 ∧ a ≠ 74) : kX I L I1 (pv_u L1 a j v) := fun b hb => ⟨(h b hb).1, by rw [← (h b hb).2]; exact pv_u_ne _ _ (by omega)⟩
theorem kX.st {I I1 : pv_I} {L L1 : pv_L} (h : kX I L I1 L1) (c : Nat → Int32) : kX I L (m_st I1 c) L1 :=
  (((h.uI 66 0 (c 0) (by decide)).uI 66 1 (c 1) (by decide)).uI 66 2 (c 2) (by decide)).uI 66 3 (c 3) (by decide)
section RMU
variable {J : pv_I} {K : pv_L} {I : pv_I} {L : pv_L}
theorem RM.u67 (h : RM J K I L) (s : Nat) (v : Int32) : RM (pv_u J 6 s v) K (pv_u I 67 s v) L := by
  obtain ⟨h1, h2, h3, h4, h5, h6, h7, h8⟩ := h
  refine ⟨h1, h2, h3, fun x hx => ?_, h5, h6, h7, h8⟩
  obtain ⟨g1, g2, g3, g4⟩ := h4 x hx
  refine ⟨?_, ?_, ?_, ?_⟩
  · rw [pv_u_app, pv_u_app, g1]; simp only [true_and]
  · exact g2
  · exact g3
  · exact g4
theorem RM.u68 (h : RM J K I L) (s : Nat) (v : Int32) : RM (pv_u J 7 s v) K (pv_u I 68 s v) L := by
  obtain ⟨h1, h2, h3, h4, h5, h6, h7, h8⟩ := h
  refine ⟨h1, h2, h3, fun x hx => ?_, h5, h6, h7, h8⟩
  obtain ⟨g1, g2, g3, g4⟩ := h4 x hx
  refine ⟨?_, ?_, ?_, ?_⟩
  · exact g1
  · rw [pv_u_app, pv_u_app, g2]; simp only [true_and]
  · exact g3
  · exact g4
theorem RM.u69 (h : RM J K I L) (s : Nat) (v : Int32) : RM (pv_u J 8 s v) K (pv_u I 69 s v) L := by
  obtain ⟨h1, h2, h3, h4, h5, h6, h7, h8⟩ := h
  refine ⟨h1, h2, h3, fun x hx => ?_, h5, h6, h7, h8⟩
  obtain ⟨g1, g2, g3, g4⟩ := h4 x hx
  refine ⟨?_, ?_, ?_, ?_⟩
  · exact g1
  · exact g2
  · rw [pv_u_app, pv_u_app, g3]; simp only [true_and]
  · exact g4
theorem RM.u70 (h : RM J K I L) (s : Nat) (v : Int32) : RM (pv_u J 9 s v) K (pv_u I 70 s v) L := by
  obtain ⟨h1, h2, h3, h4, h5, h6, h7, h8⟩ := h
  refine ⟨h1, h2, h3, fun x hx => ?_, h5, h6, h7, h8⟩
  obtain ⟨g1, g2, g3, g4⟩ := h4 x hx
  refine ⟨?_, ?_, ?_, ?_⟩
  · exact g1
  · exact g2
  · exact g3
  · rw [pv_u_app, pv_u_app, g4]; simp only [true_and]
theorem RM.f1 (h : RM J K I L) (v : Int32) : RM (pv_u J 0 1 v) K (pv_u I 61 1 v) L := by
  obtain ⟨⟨e0, e1, e2, e3, e4, e5, e6, e7, e8⟩, h2, h3, h4, h5, h6, h7, h8⟩ := h
  exact ⟨⟨e0, rfl, e2, e3, e4, e5, e6, e7, e8⟩, h2, h3, h4, h5, h6, h7, h8⟩
theorem RM.f2 (h : RM J K I L) (v : Int32) : RM (pv_u J 0 2 v) K (pv_u I 61 2 v) L := by
  obtain ⟨⟨e0, e1, e2, e3, e4, e5, e6, e7, e8⟩, h2, h3, h4, h5, h6, h7, h8⟩ := h
  exact ⟨⟨e0, e1, rfl, e3, e4, e5, e6, e7, e8⟩, h2, h3, h4, h5, h6, h7, h8⟩
theorem RM.f3 (h : RM J K I L) (v : Int32) : RM (pv_u J 0 3 v) K (pv_u I 61 3 v) L := by
  obtain ⟨⟨e0, e1, e2, e3, e4, e5, e6, e7, e8⟩, h2, h3, h4, h5, h6, h7, h8⟩ := h
  exact ⟨⟨e0, e1, e2, rfl, e4, e5, e6, e7, e8⟩, h2, h3, h4, h5, h6, h7, h8⟩
theorem RM.f4 (h : RM J K I L) (v : Int32) : RM (pv_u J 0 4 v) K (pv_u I 61 4 v) L := by
  obtain ⟨⟨e0, e1, e2, e3, e4, e5, e6, e7, e8⟩, h2, h3, h4, h5, h6, h7, h8⟩ := h
  exact ⟨⟨e0, e1, e2, e3, rfl, e5, e6, e7, e8⟩, h2, h3, h4, h5, h6, h7, h8⟩
theorem RM.PQ (h : RM J K I L) (p q : Int64) : RM J (pv_u (pv_u K 0 0 p) 0 1 q) I (m_PQ L p q) := by
  obtain ⟨⟨e0, e1, e2, e3, e4, e5, e6, e7, e8⟩, h2, h3, h4, h5, h6, h7, h8⟩ := h
  refine ⟨⟨e0, e1, e2, e3, e4, e5, e6, rfl, rfl⟩, h2, h3, h4, h5, h6, fun s hs j hj => ?_, h8⟩
  rw [pv_u_app, pv_u_app, if_neg (by omega), if_neg (by omega)]
  exact h7 s hs j hj
theorem RM.st (h : RM J K I L) (c : Nat → Int32) : RM (pv_u (pv_u (pv_u (pv_u J 4 0 (c 0)) 4 1 (c 1)) 4 2 (c 2)) 4 3 (c 3)) K (m_st I c) L := by
  obtain ⟨h1, h2, h3, h4, h5, h6, h7, h8⟩ := h
  refine ⟨h1, h2, fun x hx => ?_, h4, h5, h6, h7, h8⟩
  match x, hx with
  | 0, _ => rfl
  | 1, _ => rfl
  | 2, _ => rfl
  | 3, _ => rfl
/-- cells of a shelf: all of a row anew -/
theorem RM.row (h : RM J K I L) {s : Nat} {L1 : pv_L} (g : Nat → Int64) (hs : s < 8) (h1 : ∀ a j, ¬ (a = 71 ∧ 160 * s ≤ j ∧ j < 160 * s + 160) → L1 a j = L a j) (h2 : ∀ j, j < 160 → L1 71 (160 * s + j) = g j) : RM J (pv_ur K (1 + s) g) I L1 := by
  obtain ⟨⟨e0, e1, e2, e3, e4, e5, e6, e7, e8⟩, g2, g3, g4, g5, g6, g7, g8⟩ := h
  refine ⟨⟨e0, e1, e2, e3, e4, e5, e6, ?_, ?_⟩, g2, g3, g4, g5, g6, fun x hx j hj => ?_, fun hi => ?_⟩
  · rw [h1 _ _ (by omega), pv_ur_app, if_neg (by omega)]; exact e7
  · rw [h1 _ _ (by omega), pv_ur_app, if_neg (by omega)]; exact e8
  · rw [pv_ur_app]
    by_cases hxs : 1 + x = 1 + s
    · rw [if_pos hxs, show x = s by omega]; exact h2 j hj
    · rw [if_neg hxs, h1 _ _ (by omega)]; exact g7 x hx j hj
  · obtain ⟨i1, i2, i3, i4, i5, i6, i7, i8⟩ := g8 hi
    refine ⟨i1, i2, i3, i4, i5, i6, ?_, ?_⟩
    · rw [h1 _ _ (by omega), pv_ur_app, if_neg (by omega)]; exact i7
    · rw [h1 _ _ (by omega), pv_ur_app, if_neg (by omega)]; exact i8
/-- one cell of a shelf -/
theorem RM.uc (h : RM J K I L) {s i : Nat} (v : Int64) (hs : s < 8) (hi : i < 160) : RM J (pv_u K (1 + s) i v) I (pv_u L 71 (160 * s + i) v) := by
  have e : pv_u K (1 + s) i v = pv_ur K (1 + s) (fun j => if j = i then v else K (1 + s) j) := by
    funext x j
    rw [pv_u_app, pv_ur_app]
    by_cases hx : x = 1 + s
    · subst hx; by_cases hj : j = i
      · rw [if_pos ⟨rfl, hj⟩, if_pos rfl, if_pos hj]
      · rw [if_neg (fun q => hj q.2), if_pos rfl, if_neg hj]
    · rw [if_neg (fun q => hx q.1), if_neg hx]
  rw [e]
  refine h.row _ hs (fun a j hn => by rw [pv_u_app, if_neg (by omega)]) (fun j hj => ?_)
  rw [pv_u_app]
  by_cases hji : j = i
  · subst hji; rw [if_pos ⟨rfl, rfl⟩, if_pos rfl]
  · rw [if_neg (by omega), if_neg hji]; exact h.2.2.2.2.2.2.1 s hs j hj
end RMU
