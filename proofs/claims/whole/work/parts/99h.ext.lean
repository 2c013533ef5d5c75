/-! the law: what its entry gives -/
theorem law_S {N : Nat} {len : List Nat} {byt : List (List Int32)} {a1 a2 b1 b2 : Nat → Nat} {A : Nat → Prop} {U : State} {H : Heap} (h : vk_S N len byt a1 a2 A U H) (h1 : ∀ i, i < N → b1 i = a1 i) (h2 : ∀ i, i < N → b2 i = a2 i) : vk_S N len byt b1 b2 A U H := by
  refine ⟨fun i hi => ?_, fun i j hi hj e => h.2 i j hi hj (by rw [← h1 i hi, ← h1 j hj]; exact e)⟩
  rw [h1 i hi, h2 i hi]
  exact h.1 i hi
def law_i0 (G : pv_G) : pv_I := fun a j => match pv_xs G a with
  | some q => q.2.2 j
  | none => 0
theorem law_rep {G : pv_G} {s : State} (hz : G.2.1 = s.heap.size) (hK : ∀ (c : Nat) (q : vw_C), vwCl[c]? = some q → u_Kn s q.1 q.2.1 q.2.2 (G.1.1 c) (G.1.2 c)) : pv_Rep G (pv_tl G 0) (law_i0 G) (fun _ _ => 0) (fun _ _ => none) s s.heap := by
  refine ⟨(show s.heap.size + 16 = G.2.1 + (16 + 0) by omega), fun a ha => ?_, fun a ha => ⟨?_, fun q hq j hj => ?_⟩, [], [], ⟨⟨hK, fun k q h => by simp at h⟩, fun k q h => by simp at h, rfl, fun k q h => by simp at h⟩⟩
  · have ha : 16 ≤ a := ha
    show (if a < 16 then pv_o0 G a else (pv_shl.take 0)[a - 16]?) = none
    rw [if_neg (by omega), List.take_zero, List.getElem?_nil]
  · show (if a < 16 then pv_o0 G a else (pv_shl.take 0)[a - 16]?) = _
    rw [if_pos ha]; rfl
  · simp only [law_i0, hq]
set_option maxRecDepth 100000 in
set_option maxHeartbeats 4000000 in
theorem law_str {s : State} {b : Nat} {A : Nat → Prop} (hs : ∀ c ∈ flatC (Jvm.Cond.and given_1 narrow_1), c.before #[Value.ref b] s = true) (hA : ∀ a : Nat, a < s.heap.size → ¬ A a) : ∃ adK adV : Nat → Nat, vk_S 3 pv_sl pv_sb adK adV A s s.heap ∧ ∀ i : Nat, i < 3 → (Term.string "TwoRopes" (([442, 454, 459] : List Nat).getD i 0)).eval #[Value.ref b] s none [] s = some (.ref (adK i)) := by
  refine vk_Sof (tm := fun i => Term.string "TwoRopes" (([442, 454, 459] : List Nat).getD i 0)) (fun i hi => ?_) (fun i hi => ?_) (fun i hi => ?_) (fun i hi => ?_) (fun i hi => ?_) (fun i hi => ?_) (fun i j hi hj hij => ?_) hA
  · rcases (by omega : i = 0 ∨ i = 1 ∨ i = 2) with rfl | rfl | rfl <;> decide
  · rcases (by omega : i = 0 ∨ i = 1 ∨ i = 2) with rfl | rfl | rfl <;> exact hs _ (by decide +kernel)
  · rcases (by omega : i = 0 ∨ i = 1 ∨ i = 2) with rfl | rfl | rfl <;> exact hs _ (by decide +kernel)
  · rcases (by omega : i = 0 ∨ i = 1 ∨ i = 2) with rfl | rfl | rfl <;> exact hs _ (by decide +kernel)
  · rcases (by omega : i = 0 ∨ i = 1 ∨ i = 2) with rfl | rfl | rfl <;> exact hs _ (by decide +kernel)
  · rcases (by omega : i = 0 ∨ i = 1 ∨ i = 2) with rfl | rfl | rfl
    · intro j hj
      have hj : j < 6 := hj
      rcases (by omega : j = 0 ∨ j = 1 ∨ j = 2 ∨ j = 3 ∨ j = 4 ∨ j = 5) with rfl | rfl | rfl | rfl | rfl | rfl <;> exact hs _ (by decide +kernel)
    · intro j hj
      have hj : j < 4 := hj
      rcases (by omega : j = 0 ∨ j = 1 ∨ j = 2 ∨ j = 3) with rfl | rfl | rfl | rfl <;> exact hs _ (by decide +kernel)
    · intro j hj
      have hj : j < 5 := hj
      rcases (by omega : j = 0 ∨ j = 1 ∨ j = 2 ∨ j = 3 ∨ j = 4) with rfl | rfl | rfl | rfl | rfl <;> exact hs _ (by decide +kernel)
  · rcases (by omega : (i = 0 ∧ j = 1) ∨ (i = 0 ∧ j = 2) ∨ (i = 1 ∧ j = 2) ∨ (i = 1 ∧ j = 0) ∨ (i = 2 ∧ j = 0) ∨ (i = 2 ∧ j = 1)) with ⟨rfl, rfl⟩ | ⟨rfl, rfl⟩ | ⟨rfl, rfl⟩ | ⟨rfl, rfl⟩ | ⟨rfl, rfl⟩ | ⟨rfl, rfl⟩
    · exact Or.inl (hs _ (by decide +kernel))
    · exact Or.inl (hs _ (by decide +kernel))
    · exact Or.inl (hs _ (by decide +kernel))
    · exact Or.inr (hs _ (by decide +kernel))
    · exact Or.inr (hs _ (by decide +kernel))
    · exact Or.inr (hs _ (by decide +kernel))
set_option maxRecDepth 100000 in
set_option maxHeartbeats 4000000 in
theorem law_cls {s : State} {args : Array Value} (hts : ∀ w ∈ lw_g, w.before args s = true) : ∃ g : va_G, ∀ (c : Nat) (q : vw_C), vwCl[c]? = some q → u_Kn s q.1 q.2.1 q.2.2 (g.1 c) (g.2 c) := by
  have h0 : ∀ c : Nat, ∃ r : ClassId × (Nat → Nat), ∀ q : vw_C, vwCl[c]? = some q → u_Kn s q.1 q.2.1 q.2.2 r.1 r.2 := by
    intro c
    cases hc : vwCl[c]? with
    | none => exact ⟨(default, fun _ => 0), fun q h => by cases h⟩
    | some q0 =>
      have h1 : ∃ (cC : ClassId) (iS : Nat → Nat), u_Kn s q0.1 q0.2.1 q0.2.2 cC iS := by
        match c, hc with
        | 0, h => cases h; exact u_known hts (pv_clsok 0 (RX0, TX0, 5) rfl).1 (hts _ in_X0)
        | 1, h => cases h; exact u_known hts (pv_clsok 1 (RX1, TX1, 5) rfl).1 (hts _ in_X1)
        | 2, h => cases h; exact u_known hts (pv_clsok 2 (RX2, TX2, 6) rfl).1 (hts _ in_X2)
        | 3, h => cases h; exact u_known hts (pv_clsok 3 (RX3, TX3, 5) rfl).1 (hts _ in_X3)
        | 4, h => cases h; exact u_known hts (pv_clsok 4 (RX4, TX4, 7) rfl).1 (hts _ in_X4)
        | 5, h => cases h; exact u_known hts (pv_clsok 5 (RX5, TX5, 5) rfl).1 (hts _ in_X5)
        | 6, h => cases h; exact u_known hts (pv_clsok 6 (RX6, TX6, 5) rfl).1 (hts _ in_X6)
        | 7, h => cases h; exact u_known hts (pv_clsok 7 (RX7, TX7, 12) rfl).1 (hts _ in_X7)
        | 8, h => cases h; exact u_known hts (pv_clsok 8 (RX8, TX8, 7) rfl).1 (hts _ in_X8)
        | 9, h => cases h; exact u_known hts (pv_clsok 9 (RX9, TX9, 5) rfl).1 (hts _ in_X9)
        | 10, h => cases h; exact u_known hts (pv_clsok 10 (RX10, TX10, 5) rfl).1 (hts _ in_X10)
        | 11, h => cases h; exact u_known hts (pv_clsok 11 (RX11, TX11, 13) rfl).1 (hts _ in_X11)
        | 12, h => cases h; exact u_known hts (pv_clsok 12 (RX12, TX12, 61) rfl).1 (hts _ in_X12)
        | k + 13, h => simp [vwCl] at h
      obtain ⟨cC, iS, h2⟩ := h1
      exact ⟨(cC, iS), fun q h => by cases h; exact h2⟩
  obtain ⟨f, hf⟩ := Classical.axiomOfChoice h0
  exact ⟨(fun c => (f c).1, fun c => (f c).2), fun c q h => hf c q h⟩
set_option maxRecDepth 100000 in
set_option maxHeartbeats 4000000 in
theorem law_ext {s : State} {b L : Nat} {xs : Nat → Int32} (hts : ∀ w ∈ lw_tbl, w.before #[Value.ref b] s = true) (hX : va_X b L xs s s.heap) (hbl : b < s.heap.size) (hgv : (Jvm.Cond.and given_1 narrow_1).before #[Value.ref b] s = true) : ∃ G : pv_G, G.2.1 = s.heap.size ∧ G.2.2.1 0 = b ∧ G.2.2.2.1 = L ∧ pv_Ext G s ∧ fk_ok G ∧ ∀ (c : Nat) (q : vw_C), vwCl[c]? = some q → u_Kn s q.1 q.2.1 q.2.2 (G.1.1 c) (G.1.2 c) := by
  have hs := flat_of_before _ hgv
  have hA : ∀ a : Nat, a < s.heap.size → ¬ (fun q : Nat => s.heap.size ≤ q) a := fun a h q => Nat.not_le.mpr h q
  have hg : ∀ w ∈ lw_g, w.before #[Value.ref b] s = true := fun w hw => hts w (List.mem_filter.mp hw).1
  obtain ⟨g, hc⟩ := law_cls hg
  obtain ⟨adK, adV, hS, hR⟩ := law_str hs hA
  obtain ⟨t1, ht1, hT1⟩ := va_Tof (tm := (.static "TwoRopes" "ABOVE" "[I")) (ty := .int) (N := 7) (f := fun j => .int (pv_above j)) (by decide) (hs _ (by decide +kernel)) (va_eqt (z := Int32.ofNat 7) (hs _ (by decide +kernel))) (fun j hj => by
    rcases (by omega : j = 0 ∨ j = 1 ∨ j = 2 ∨ j = 3 ∨ j = 4 ∨ j = 5 ∨ j = 6) with rfl | rfl | rfl | rfl | rfl | rfl | rfl
    · exact va_eqt (hs _ (by decide +kernel))
    · exact va_eqt (hs _ (by decide +kernel))
    · exact va_eqt (hs _ (by decide +kernel))
    · exact va_eqt (hs _ (by decide +kernel))
    · exact va_eqt (hs _ (by decide +kernel))
    · exact va_eqt (hs _ (by decide +kernel))
    · exact va_eqt (hs _ (by decide +kernel))) hA
  have hZ1 := va_Zref (C := "TwoRopes") (n := "ABOVE") (d := "[I") (hts _ (List.mem_append_right _ (List.mem_of_getElem? (i := 319) (by decide +kernel)))) (hts _ (List.mem_append_right _ (List.mem_of_getElem? (i := 1) (by decide +kernel)))) ht1 hA
  have hZ2 := va_Zof (C := "java/lang/String") (n := "COMPACT_STRINGS") (d := "Z") (v := .int 1) (hts _ (List.mem_append_right _ (List.mem_of_getElem? (i := 544) (by decide +kernel)))) (hts _ (List.mem_append_right _ (List.mem_of_getElem? (i := 17) (by decide +kernel)))) (va_eqt (z := 1) (hs _ (by decide +kernel))) hA
  have hZ3 := va_Zqof (C := "jdk/internal/util/Preconditions") (n := "SIOOBE_FORMATTER") (d := "Ljava/util/function/BiFunction;") (hts _ (List.mem_append_right _ (List.mem_of_getElem? (i := 560) (by decide +kernel)))) (hts _ (List.mem_append_right _ (List.mem_of_getElem? (i := 19) (by decide +kernel)))) (hs _ (by decide +kernel)) hA
  obtain ⟨fv, t8, hfv, hZ3⟩ : ∃ (fv : Value) (t8 : Nat), (fv = .null ∨ fv = .ref 8) ∧ va_Z "jdk/internal/util/Preconditions" "SIOOBE_FORMATTER" "Ljava/util/function/BiFunction;" (match fv with
      | .ref _ => .ref t8
      | w => w) (fun q : Nat => s.heap.size ≤ q) s s.heap := by
    rcases hZ3 with h | ⟨t8, h⟩
    · exact ⟨.null, 0, Or.inl rfl, h⟩
    · exact ⟨.ref 8, t8, Or.inr rfl, h⟩
  refine ⟨(g, s.heap.size, fun k => if k < 2 then (if k = 0 then b else t1) else if k < 5 then adK (k - 2) else if k < 8 then adV (k - 5) else t8, L, xs, fv), rfl, rfl, rfl, ⟨Nat.le_refl _, fun a q ha hq => ?_, hZ1, ?_, ⟨?_, ?_, ?_⟩, hZ2, ?_, fun w hw => ?_, ?_, ?_⟩, ?_, hc⟩
  · rcases (by omega : a = 0 ∨ a = 1 ∨ a = 2 ∨ a = 3 ∨ a = 4 ∨ a = 5 ∨ a = 6 ∨ a = 7 ∨ a = 8 ∨ a = 9 ∨ a = 10 ∨ a = 11 ∨ a = 12 ∨ a = 13 ∨ a = 14 ∨ a = 15) with rfl | rfl | rfl | rfl | rfl | rfl | rfl | rfl | rfl | rfl | rfl | rfl | rfl | rfl | rfl | rfl
    · cases hq
      obtain ⟨scr, h1, h2, h3, h4, h5⟩ := hX
      exact ⟨scr, h1, h2, h3, Nat.le_of_eq h4.symm, congrArg Nat.toInt32 h4, h5, hA b hbl⟩
    · cases hq; exact hT1
    · cases hq
    · cases hq
    · cases hq
    · cases hq; exact (hS.1 0 (by decide)).2.2.2
    · cases hq; exact (hS.1 1 (by decide)).2.2.2
    · cases hq; exact (hS.1 2 (by decide)).2.2.2
    · cases hq
    · cases hq
    · cases hq
    · cases hq
    · cases hq
    · cases hq
    · cases hq
    · cases hq
  · refine law_S hS (fun i hi => ?_) (fun i hi => ?_)
    · rcases (by omega : i = 0 ∨ i = 1 ∨ i = 2) with rfl | rfl | rfl <;> rfl
    · rcases (by omega : i = 0 ∨ i = 1 ∨ i = 2) with rfl | rfl | rfl <;> rfl
  · exact vk_R.of (hts _ (List.mem_append_right _ (List.mem_of_getElem? (i := 530) (by decide +kernel)))) (hR 0 (by decide))
  · exact vk_R.of (hts _ (List.mem_append_right _ (List.mem_of_getElem? (i := 605) (by decide +kernel)))) (hR 1 (by decide))
  · exact vk_R.of (hts _ (List.mem_append_right _ (List.mem_of_getElem? (i := 646) (by decide +kernel)))) (hR 2 (by decide))
  · rcases hfv with rfl | rfl
    · exact hZ3
    · exact hZ3
  · obtain ⟨h1, h2⟩ := List.mem_filter.mp hw
    have h3 := hts w h1
    rcases pv_nw hw with ⟨a, i, b, n, d, h, rfl⟩ | ⟨a, i, x, h, rfl⟩ | ⟨a, b, rfl⟩
    · exact va_Nw.of rfl h3
    · exact va_Nw.of rfl h3
    · exact va_Nw.of rfl h3
  · exact va_AO.of (A := #[Value.ref b]) (hts _ (List.mem_append_right _ (List.mem_of_getElem? (i := 32) (by decide +kernel))))
  · exact va_AO.of (A := #[Value.ref b]) (hts _ (List.mem_append_right _ (List.mem_of_getElem? (i := 34) (by decide +kernel))))
  · rcases hfv with rfl | rfl
    · exact fun r => rfl
    · exact fun r => rfl
