/-! how many rows keep within; how many come to a number -/
def w_kin (b P Q : Int64) : Bool := !decide (b < P) && !decide (P < -b) && !decide (b < Q)
theorem w_kin_t {b P Q : Int64} (h1 : ¬ b < P) (h2 : ¬ P < -b) (h3 : ¬ b < Q) : w_kin b P Q = true := by unfold w_kin; rw [decide_eq_false h1, decide_eq_false h2, decide_eq_false h3]; rfl
theorem w_kin_f {b P Q : Int64} (h : b < P ∨ P < -b ∨ b < Q) : ¬ w_kin b P Q = true := by
  unfold w_kin
  rcases h with h | h | h <;> rw [decide_eq_true h] <;> simp
def w_kp (b : Int64) : Nat → Int64 → Int64 → Int32 → Int32
  | 0, _, _, f => f + 1
  | m + 1, p, q, f => if w_kin b (s_stepP 2 p q) (s_stepQ 2 p q) = true then w_kp b m (s_stepP 2 p q) (s_stepQ 2 p q) (if w_kin b (s_stepP 1 p q) (s_stepQ 1 p q) = true then w_kp b m (s_stepP 1 p q) (s_stepQ 1 p q) (if w_kin b (s_stepP 0 p q) (s_stepQ 0 p q) = true then w_kp b m (s_stepP 0 p q) (s_stepQ 0 p q) f else f) else (if w_kin b (s_stepP 0 p q) (s_stepQ 0 p q) = true then w_kp b m (s_stepP 0 p q) (s_stepQ 0 p q) f else f))
    else (if w_kin b (s_stepP 1 p q) (s_stepQ 1 p q) = true then w_kp b m (s_stepP 1 p q) (s_stepQ 1 p q) (if w_kin b (s_stepP 0 p q) (s_stepQ 0 p q) = true then w_kp b m (s_stepP 0 p q) (s_stepQ 0 p q) f else f) else (if w_kin b (s_stepP 0 p q) (s_stepQ 0 p q) = true then w_kp b m (s_stepP 0 p q) (s_stepQ 0 p q) f else f))
def w_k1 (b : Int64) (m : Nat) (s : Int32) (p q : Int64) (f : Int32) : Int32 := if w_kin b (s_stepP s p q) (s_stepQ s p q) = true then w_kp b m (s_stepP s p q) (s_stepQ s p q) f else f
theorem w_kp_s (b : Int64) (m : Nat) (p q : Int64) (f : Int32) : w_kp b (m + 1) p q f = w_k1 b m 2 p q (w_k1 b m 1 p q (w_k1 b m 0 p q f)) := rfl
def w_cn (a b : Int64) : Nat → Int64 → Int64 → Int32 → Int32
  | 0, p, q, f => if p = a ∧ q = b then f + 1 else f
  | m + 1, p, q, f => w_cn a b m (s_stepP 2 p q) (s_stepQ 2 p q) (w_cn a b m (s_stepP 1 p q) (s_stepQ 1 p q) (w_cn a b m (s_stepP 0 p q) (s_stepQ 0 p q) f))
def fk (I I1 : pv_I) : Prop := ∀ a j, a ≠ 73 → ¬ (a = 61 ∧ j = 44) → I1 a j = I a j
theorem fk.rf {I : pv_I} : fk I I := fun _ _ _ _ => rfl
theorem fk.tr {I I1 I2 : pv_I} (h : fk I I1) (g : fk I1 I2) : fk I I2 := fun a j h1 h2 => (g a j h1 h2).trans (h a j h1 h2)
theorem fk.at {I I1 : pv_I} (h : fk I I1) (c : Nat → Int32) : fk I (m_at I1 c) := fun a j h1 h2 => by rw [m_at_app, if_neg (fun r => h1 r.1)]; exact h a j h1 h2
theorem fk.u {I I1 : pv_I} (h : fk I I1) (v : Int32) : fk I (pv_u I1 61 44 v) := fun a j h1 h2 => by rw [pv_u_app, if_neg h2]; exact h a j h1 h2
theorem fk.kS {I I1 : pv_I} {L : pv_L} (h : fk I I1) : kS I L I1 L :=
  ⟨fun j _ => h 61 j (by decide) (by omega), rfl, rfl, fun a ha => funext fun j => h a j (by omega) (by omega), fun _ _ => rfl⟩

set_option maxRecDepth 100000 in
set_option maxHeartbeats 4000000 in
theorem l_kp {G : pv_G} {b : Int64} {n : Int32} {t : pv_T} {Rf : pv_R} (hT : sh_ok t) (hR : rf_ok Rf) (h0 : 0 ≤ n.toInt) (hn : n.toInt ≤ 9) : ∀ (m k d : Nat), k + m = n.toNatClampNeg → m + 2 ≤ d → ∀ (I : pv_I) (L : pv_L) (p q : Int64), L 61 18 = p → L 61 19 = q →
    pv_Mt G mX12_keepsTo d 0 0 [.ref 61, .int (Int32.ofNat k), .int n, .long b] t I L Rf (fun v t1 I1 L1 R1 => v = none ∧ t1 = t ∧ R1 = Rf ∧ L1 = L ∧ fk I I1 ∧ I1 61 44 = w_kp b m p q (I 61 44)) := by
  intro m
  induction m with
  | zero =>
    intro k d hk hd I L p q hp hq
    have hnl := i_lit n
    have hkn : Int32.ofNat k = n := by rw [← Int32.toInt_inj, i_of (by omega)]; omega
    refine pv_mt mgX12_keepsTo.2.2.2.2.2 [.ref 61, .int (Int32.ofNat k), .int n, .long b, .retAddr 0, .retAddr 0, .retAddr 0, .retAddr 0, .retAddr 0, .retAddr 0] rfl (Nat.le_of_ble_eq_true rfl) ?_
    refine pv_iload_1 (pc := 0) dX12_keepsTo_0 ?_
    refine pv_iload_2 (pc := 1) dX12_keepsTo_1 ?_
    refine pv_icmp_ne (pc := 2) (tgt := 16) dX12_keepsTo_2 (by decide) (fun h2 => absurd h2 (not_not_intro (by rw [← hkn]))) (fun h2 => ?_)
    refine pv_aload_0 (pc := 5) dX12_keepsTo_5 ?_
    refine pv_dup (pc := 6) dX12_keepsTo_6 rfl ?_
    refine pv_getI (pc := 7) dX12_keepsTo_7 fg_X12_365_12 rfl (by decide) (sx_61 hT) ?_
    refine pv_iconst (pc := 10) (v := 1) dX12_keepsTo_10 (by decide) ?_
    refine pv_iadd (pc := 11) dX12_keepsTo_11 ?_
    refine pv_putI (pc := 12) dX12_keepsTo_12 fl_X12_365_12 (fun q => by cases q) ⟨rfl, rfl, rfl⟩ (by decide) (sx_61 hT) ?_
    refine pv_vret (pc := 15) dX12_keepsTo_15 rfl ?_
    exact ⟨rfl, rfl, rfl, rfl, fk.rf.u _, rfl⟩
  | succ m ih =>
    intro k d hk hd I L p q hp hq
    have hnl := i_lit n
    have r3 : ∀ (I1 : pv_I), fk I I1 → I1 61 44 = w_k1 b m 2 p q (w_k1 b m 1 p q (w_k1 b m 0 p q (I 61 44))) → pv_V G mX12_keepsTo d 0 0 (fun v t1 I1 L1 R1 => v = none ∧ t1 = t ∧ R1 = Rf ∧ L1 = L ∧ fk I I1 ∧ I1 61 44 = w_kp b (m + 1) p q (I 61 44)) 0 0 31 [.ref 61, .int (Int32.ofNat k), .int n, .long b, .retAddr 0, .long p, .retAddr 0, .long q, .retAddr 0, .int 3] [] t I1 L Rf := by
      intro I1 hf hv
      refine pv_iload_9 (pc := 31) dX12_keepsTo_31 ?_
      refine pv_iconst (pc := 33) (v := 3) dX12_keepsTo_33 (by decide) ?_
      refine pv_icmp_ge (pc := 34) (tgt := 98) dX12_keepsTo_34 (by decide) (fun _ => ?_) (fun q => absurd q (by decide))
      refine pv_vret (pc := 98) dX12_keepsTo_98 rfl ?_
      exact ⟨rfl, rfl, rfl, rfl, hf, hv⟩
    have r2 : ∀ (I1 : pv_I), fk I I1 → I1 61 44 = w_k1 b m 1 p q (w_k1 b m 0 p q (I 61 44)) → pv_V G mX12_keepsTo d 0 0 (fun v t1 I1 L1 R1 => v = none ∧ t1 = t ∧ R1 = Rf ∧ L1 = L ∧ fk I I1 ∧ I1 61 44 = w_kp b (m + 1) p q (I 61 44)) 0 0 31 [.ref 61, .int (Int32.ofNat k), .int n, .long b, .retAddr 0, .long p, .retAddr 0, .long q, .retAddr 0, .int 2] [] t I1 L Rf := by
      intro I1 hf hv
      refine pv_iload_9 (pc := 31) dX12_keepsTo_31 ?_
      refine pv_iconst (pc := 33) (v := 3) dX12_keepsTo_33 (by decide) ?_
      refine pv_icmp_ge (pc := 34) (tgt := 98) dX12_keepsTo_34 (by decide) (fun q => absurd q (by decide)) (fun _ => ?_)
      refine pv_aload_0 (pc := 37) dX12_keepsTo_37 ?_
      refine pv_iload_9 (pc := 38) dX12_keepsTo_38 ?_
      refine pv_callV0 (pc := 40) dX12_keepsTo_40 mgX12_step lv_X12_286_12 (by decide) (sx_61 hT) (by omega) (c_X12_step hT hR (by decide) (by omega)) rfl rfl (by decide) ?_
      rw [hp, hq]
      refine pv_aload_0 (pc := 43) dX12_keepsTo_43 ?_
      refine pv_getL (pc := 44) dX12_keepsTo_44 fg_X12_150_12 (by decide) (sx_61 hT) ?_
      refine pv_lload_3 (pc := 47) dX12_keepsTo_47 ?_
      refine pv_lcmp_gt (pc := 48) (tgt := 80) dX12_keepsTo_48 dX12_keepsTo_49 (by decide) (fun h48 => ?_) (fun h48 => ?_)
      · refine pv_aload_0 (pc := 80) dX12_keepsTo_80 ?_
        refine pv_lload_5 (pc := 81) dX12_keepsTo_81 ?_
        refine pv_putL (pc := 83) dX12_keepsTo_83 fl_X12_150_12 (fun q => by cases q) (by decide) (sx_61 hT) ?_
        refine pv_aload_0 (pc := 86) dX12_keepsTo_86 ?_
        refine pv_lload_7 (pc := 87) dX12_keepsTo_87 ?_
        refine pv_putL (pc := 89) dX12_keepsTo_89 fl_X12_153_12 (fun q => by cases q) (by decide) (sx_61 hT) ?_
        refine pv_memL (L := L) (by have e := m_pq_back L (s_stepP 2 p q) (s_stepQ 2 p q); rw [hp, hq] at e; exact e) ?_
        refine pv_iinc_9 (pc := 92) (v := 3) dX12_keepsTo_92 (by decide) (by decide) rfl ?_
        refine pv_goto (pc := 95) (tgt := 31) dX12_keepsTo_95 (by decide) ?_
        first
          | (have g1 := h48; exact r3 _ ((hf.at _).tr hf1) (by rw [hv1, w_k1, if_pos (w_kin_t (P := s_stepP 2 p q) (Q := s_stepQ 2 p q) h48 h58 h67), ← hv]; rfl))
          | (have g1 := h48; exact r3 _ (hf.at _) (by rw [w_k1, if_neg (w_kin_f (P := s_stepP 2 p q) (Q := s_stepQ 2 p q) (Or.inl g1))]; exact hv))
          | (have g1 := h58; exact r3 _ (hf.at _) (by rw [w_k1, if_neg (w_kin_f (P := s_stepP 2 p q) (Q := s_stepQ 2 p q) (Or.inr (Or.inl g1)))]; exact hv))
          | (have g1 := h67; exact r3 _ (hf.at _) (by rw [w_k1, if_neg (w_kin_f (P := s_stepP 2 p q) (Q := s_stepQ 2 p q) (Or.inr (Or.inr g1)))]; exact hv))
      · refine pv_aload_0 (pc := 52) dX12_keepsTo_52 ?_
        refine pv_getL (pc := 53) dX12_keepsTo_53 fg_X12_150_12 (by decide) (sx_61 hT) ?_
        refine pv_lload_3 (pc := 56) dX12_keepsTo_56 ?_
        refine pv_lneg (pc := 57) dX12_keepsTo_57 ?_
        refine pv_lcmp_lt (pc := 58) (tgt := 80) dX12_keepsTo_58 dX12_keepsTo_59 (by decide) (fun h58 => ?_) (fun h58 => ?_)
        · refine pv_aload_0 (pc := 80) dX12_keepsTo_80 ?_
          refine pv_lload_5 (pc := 81) dX12_keepsTo_81 ?_
          refine pv_putL (pc := 83) dX12_keepsTo_83 fl_X12_150_12 (fun q => by cases q) (by decide) (sx_61 hT) ?_
          refine pv_aload_0 (pc := 86) dX12_keepsTo_86 ?_
          refine pv_lload_7 (pc := 87) dX12_keepsTo_87 ?_
          refine pv_putL (pc := 89) dX12_keepsTo_89 fl_X12_153_12 (fun q => by cases q) (by decide) (sx_61 hT) ?_
          refine pv_memL (L := L) (by have e := m_pq_back L (s_stepP 2 p q) (s_stepQ 2 p q); rw [hp, hq] at e; exact e) ?_
          refine pv_iinc_9 (pc := 92) (v := 3) dX12_keepsTo_92 (by decide) (by decide) rfl ?_
          refine pv_goto (pc := 95) (tgt := 31) dX12_keepsTo_95 (by decide) ?_
          first
            | (have g1 := h48; exact r3 _ ((hf.at _).tr hf1) (by rw [hv1, w_k1, if_pos (w_kin_t (P := s_stepP 2 p q) (Q := s_stepQ 2 p q) h48 h58 h67), ← hv]; rfl))
            | (have g1 := h48; exact r3 _ (hf.at _) (by rw [w_k1, if_neg (w_kin_f (P := s_stepP 2 p q) (Q := s_stepQ 2 p q) (Or.inl g1))]; exact hv))
            | (have g1 := h58; exact r3 _ (hf.at _) (by rw [w_k1, if_neg (w_kin_f (P := s_stepP 2 p q) (Q := s_stepQ 2 p q) (Or.inr (Or.inl g1)))]; exact hv))
            | (have g1 := h67; exact r3 _ (hf.at _) (by rw [w_k1, if_neg (w_kin_f (P := s_stepP 2 p q) (Q := s_stepQ 2 p q) (Or.inr (Or.inr g1)))]; exact hv))
        · refine pv_aload_0 (pc := 62) dX12_keepsTo_62 ?_
          refine pv_getL (pc := 63) dX12_keepsTo_63 fg_X12_153_12 (by decide) (sx_61 hT) ?_
          refine pv_lload_3 (pc := 66) dX12_keepsTo_66 ?_
          refine pv_lcmp_gt (pc := 67) (tgt := 80) dX12_keepsTo_67 dX12_keepsTo_68 (by decide) (fun h67 => ?_) (fun h67 => ?_)
          · refine pv_aload_0 (pc := 80) dX12_keepsTo_80 ?_
            refine pv_lload_5 (pc := 81) dX12_keepsTo_81 ?_
            refine pv_putL (pc := 83) dX12_keepsTo_83 fl_X12_150_12 (fun q => by cases q) (by decide) (sx_61 hT) ?_
            refine pv_aload_0 (pc := 86) dX12_keepsTo_86 ?_
            refine pv_lload_7 (pc := 87) dX12_keepsTo_87 ?_
            refine pv_putL (pc := 89) dX12_keepsTo_89 fl_X12_153_12 (fun q => by cases q) (by decide) (sx_61 hT) ?_
            refine pv_memL (L := L) (by have e := m_pq_back L (s_stepP 2 p q) (s_stepQ 2 p q); rw [hp, hq] at e; exact e) ?_
            refine pv_iinc_9 (pc := 92) (v := 3) dX12_keepsTo_92 (by decide) (by decide) rfl ?_
            refine pv_goto (pc := 95) (tgt := 31) dX12_keepsTo_95 (by decide) ?_
            first
              | (have g1 := h48; exact r3 _ ((hf.at _).tr hf1) (by rw [hv1, w_k1, if_pos (w_kin_t (P := s_stepP 2 p q) (Q := s_stepQ 2 p q) h48 h58 h67), ← hv]; rfl))
              | (have g1 := h48; exact r3 _ (hf.at _) (by rw [w_k1, if_neg (w_kin_f (P := s_stepP 2 p q) (Q := s_stepQ 2 p q) (Or.inl g1))]; exact hv))
              | (have g1 := h58; exact r3 _ (hf.at _) (by rw [w_k1, if_neg (w_kin_f (P := s_stepP 2 p q) (Q := s_stepQ 2 p q) (Or.inr (Or.inl g1)))]; exact hv))
              | (have g1 := h67; exact r3 _ (hf.at _) (by rw [w_k1, if_neg (w_kin_f (P := s_stepP 2 p q) (Q := s_stepQ 2 p q) (Or.inr (Or.inr g1)))]; exact hv))
          · refine pv_aload_0 (pc := 71) dX12_keepsTo_71 ?_
            refine pv_iload_1 (pc := 72) dX12_keepsTo_72 ?_
            refine pv_iconst (pc := 73) (v := 1) dX12_keepsTo_73 (by decide) ?_
            refine pv_iadd (pc := 74) dX12_keepsTo_74 ?_
            refine pv_topv2 (y := Int32.ofNat (k + 1)) (i_inc k) ?_
            refine pv_iload_2 (pc := 75) dX12_keepsTo_75 ?_
            refine pv_lload_3 (pc := 76) dX12_keepsTo_76 ?_
            refine pv_callVq (pc := 77) dX12_keepsTo_77 mgX12_keepsTo lv_X12_368_12 (by decide) (sx_61 hT) (by omega) (ih (k + 1) (d - 1) (by omega) (by omega) (m_at I1 (h_stc 2 (I1 73))) (m_pq L (s_stepP 2 p q) (s_stepQ 2 p q)) _ _ rfl rfl) rfl rfl (by decide) (fun v t I L Rf hq => ?_)
            obtain ⟨rfl, rfl, rfl, rfl, hf1, hv1⟩ := hq
            refine pv_aload_0 (pc := 80) dX12_keepsTo_80 ?_
            refine pv_lload_5 (pc := 81) dX12_keepsTo_81 ?_
            refine pv_putL (pc := 83) dX12_keepsTo_83 fl_X12_150_12 (fun q => by cases q) (by decide) (sx_61 hT) ?_
            refine pv_aload_0 (pc := 86) dX12_keepsTo_86 ?_
            refine pv_lload_7 (pc := 87) dX12_keepsTo_87 ?_
            refine pv_putL (pc := 89) dX12_keepsTo_89 fl_X12_153_12 (fun q => by cases q) (by decide) (sx_61 hT) ?_
            refine pv_memL (L := L) (by have e := m_pq_back L (s_stepP 2 p q) (s_stepQ 2 p q); rw [hp, hq] at e; exact e) ?_
            refine pv_iinc_9 (pc := 92) (v := 3) dX12_keepsTo_92 (by decide) (by decide) rfl ?_
            refine pv_goto (pc := 95) (tgt := 31) dX12_keepsTo_95 (by decide) ?_
            first
              | (have g1 := h48; exact r3 _ ((hf.at _).tr hf1) (by rw [hv1, w_k1, if_pos (w_kin_t (P := s_stepP 2 p q) (Q := s_stepQ 2 p q) h48 h58 h67), ← hv]; rfl))
              | (have g1 := h48; exact r3 _ (hf.at _) (by rw [w_k1, if_neg (w_kin_f (P := s_stepP 2 p q) (Q := s_stepQ 2 p q) (Or.inl g1))]; exact hv))
              | (have g1 := h58; exact r3 _ (hf.at _) (by rw [w_k1, if_neg (w_kin_f (P := s_stepP 2 p q) (Q := s_stepQ 2 p q) (Or.inr (Or.inl g1)))]; exact hv))
              | (have g1 := h67; exact r3 _ (hf.at _) (by rw [w_k1, if_neg (w_kin_f (P := s_stepP 2 p q) (Q := s_stepQ 2 p q) (Or.inr (Or.inr g1)))]; exact hv))
    have r1 : ∀ (I1 : pv_I), fk I I1 → I1 61 44 = w_k1 b m 0 p q (I 61 44) → pv_V G mX12_keepsTo d 0 0 (fun v t1 I1 L1 R1 => v = none ∧ t1 = t ∧ R1 = Rf ∧ L1 = L ∧ fk I I1 ∧ I1 61 44 = w_kp b (m + 1) p q (I 61 44)) 0 0 31 [.ref 61, .int (Int32.ofNat k), .int n, .long b, .retAddr 0, .long p, .retAddr 0, .long q, .retAddr 0, .int 1] [] t I1 L Rf := by
      intro I1 hf hv
      refine pv_iload_9 (pc := 31) dX12_keepsTo_31 ?_
      refine pv_iconst (pc := 33) (v := 3) dX12_keepsTo_33 (by decide) ?_
      refine pv_icmp_ge (pc := 34) (tgt := 98) dX12_keepsTo_34 (by decide) (fun q => absurd q (by decide)) (fun _ => ?_)
      refine pv_aload_0 (pc := 37) dX12_keepsTo_37 ?_
      refine pv_iload_9 (pc := 38) dX12_keepsTo_38 ?_
      refine pv_callV0 (pc := 40) dX12_keepsTo_40 mgX12_step lv_X12_286_12 (by decide) (sx_61 hT) (by omega) (c_X12_step hT hR (by decide) (by omega)) rfl rfl (by decide) ?_
      rw [hp, hq]
      refine pv_aload_0 (pc := 43) dX12_keepsTo_43 ?_
      refine pv_getL (pc := 44) dX12_keepsTo_44 fg_X12_150_12 (by decide) (sx_61 hT) ?_
      refine pv_lload_3 (pc := 47) dX12_keepsTo_47 ?_
      refine pv_lcmp_gt (pc := 48) (tgt := 80) dX12_keepsTo_48 dX12_keepsTo_49 (by decide) (fun h48 => ?_) (fun h48 => ?_)
      · refine pv_aload_0 (pc := 80) dX12_keepsTo_80 ?_
        refine pv_lload_5 (pc := 81) dX12_keepsTo_81 ?_
        refine pv_putL (pc := 83) dX12_keepsTo_83 fl_X12_150_12 (fun q => by cases q) (by decide) (sx_61 hT) ?_
        refine pv_aload_0 (pc := 86) dX12_keepsTo_86 ?_
        refine pv_lload_7 (pc := 87) dX12_keepsTo_87 ?_
        refine pv_putL (pc := 89) dX12_keepsTo_89 fl_X12_153_12 (fun q => by cases q) (by decide) (sx_61 hT) ?_
        refine pv_memL (L := L) (by have e := m_pq_back L (s_stepP 1 p q) (s_stepQ 1 p q); rw [hp, hq] at e; exact e) ?_
        refine pv_iinc_9 (pc := 92) (v := 2) dX12_keepsTo_92 (by decide) (by decide) rfl ?_
        refine pv_goto (pc := 95) (tgt := 31) dX12_keepsTo_95 (by decide) ?_
        first
          | (have g1 := h48; exact r2 _ ((hf.at _).tr hf1) (by rw [hv1, w_k1, if_pos (w_kin_t (P := s_stepP 1 p q) (Q := s_stepQ 1 p q) h48 h58 h67), ← hv]; rfl))
          | (have g1 := h48; exact r2 _ (hf.at _) (by rw [w_k1, if_neg (w_kin_f (P := s_stepP 1 p q) (Q := s_stepQ 1 p q) (Or.inl g1))]; exact hv))
          | (have g1 := h58; exact r2 _ (hf.at _) (by rw [w_k1, if_neg (w_kin_f (P := s_stepP 1 p q) (Q := s_stepQ 1 p q) (Or.inr (Or.inl g1)))]; exact hv))
          | (have g1 := h67; exact r2 _ (hf.at _) (by rw [w_k1, if_neg (w_kin_f (P := s_stepP 1 p q) (Q := s_stepQ 1 p q) (Or.inr (Or.inr g1)))]; exact hv))
      · refine pv_aload_0 (pc := 52) dX12_keepsTo_52 ?_
        refine pv_getL (pc := 53) dX12_keepsTo_53 fg_X12_150_12 (by decide) (sx_61 hT) ?_
        refine pv_lload_3 (pc := 56) dX12_keepsTo_56 ?_
        refine pv_lneg (pc := 57) dX12_keepsTo_57 ?_
        refine pv_lcmp_lt (pc := 58) (tgt := 80) dX12_keepsTo_58 dX12_keepsTo_59 (by decide) (fun h58 => ?_) (fun h58 => ?_)
        · refine pv_aload_0 (pc := 80) dX12_keepsTo_80 ?_
          refine pv_lload_5 (pc := 81) dX12_keepsTo_81 ?_
          refine pv_putL (pc := 83) dX12_keepsTo_83 fl_X12_150_12 (fun q => by cases q) (by decide) (sx_61 hT) ?_
          refine pv_aload_0 (pc := 86) dX12_keepsTo_86 ?_
          refine pv_lload_7 (pc := 87) dX12_keepsTo_87 ?_
          refine pv_putL (pc := 89) dX12_keepsTo_89 fl_X12_153_12 (fun q => by cases q) (by decide) (sx_61 hT) ?_
          refine pv_memL (L := L) (by have e := m_pq_back L (s_stepP 1 p q) (s_stepQ 1 p q); rw [hp, hq] at e; exact e) ?_
          refine pv_iinc_9 (pc := 92) (v := 2) dX12_keepsTo_92 (by decide) (by decide) rfl ?_
          refine pv_goto (pc := 95) (tgt := 31) dX12_keepsTo_95 (by decide) ?_
          first
            | (have g1 := h48; exact r2 _ ((hf.at _).tr hf1) (by rw [hv1, w_k1, if_pos (w_kin_t (P := s_stepP 1 p q) (Q := s_stepQ 1 p q) h48 h58 h67), ← hv]; rfl))
            | (have g1 := h48; exact r2 _ (hf.at _) (by rw [w_k1, if_neg (w_kin_f (P := s_stepP 1 p q) (Q := s_stepQ 1 p q) (Or.inl g1))]; exact hv))
            | (have g1 := h58; exact r2 _ (hf.at _) (by rw [w_k1, if_neg (w_kin_f (P := s_stepP 1 p q) (Q := s_stepQ 1 p q) (Or.inr (Or.inl g1)))]; exact hv))
            | (have g1 := h67; exact r2 _ (hf.at _) (by rw [w_k1, if_neg (w_kin_f (P := s_stepP 1 p q) (Q := s_stepQ 1 p q) (Or.inr (Or.inr g1)))]; exact hv))
        · refine pv_aload_0 (pc := 62) dX12_keepsTo_62 ?_
          refine pv_getL (pc := 63) dX12_keepsTo_63 fg_X12_153_12 (by decide) (sx_61 hT) ?_
          refine pv_lload_3 (pc := 66) dX12_keepsTo_66 ?_
          refine pv_lcmp_gt (pc := 67) (tgt := 80) dX12_keepsTo_67 dX12_keepsTo_68 (by decide) (fun h67 => ?_) (fun h67 => ?_)
          · refine pv_aload_0 (pc := 80) dX12_keepsTo_80 ?_
            refine pv_lload_5 (pc := 81) dX12_keepsTo_81 ?_
            refine pv_putL (pc := 83) dX12_keepsTo_83 fl_X12_150_12 (fun q => by cases q) (by decide) (sx_61 hT) ?_
            refine pv_aload_0 (pc := 86) dX12_keepsTo_86 ?_
            refine pv_lload_7 (pc := 87) dX12_keepsTo_87 ?_
            refine pv_putL (pc := 89) dX12_keepsTo_89 fl_X12_153_12 (fun q => by cases q) (by decide) (sx_61 hT) ?_
            refine pv_memL (L := L) (by have e := m_pq_back L (s_stepP 1 p q) (s_stepQ 1 p q); rw [hp, hq] at e; exact e) ?_
            refine pv_iinc_9 (pc := 92) (v := 2) dX12_keepsTo_92 (by decide) (by decide) rfl ?_
            refine pv_goto (pc := 95) (tgt := 31) dX12_keepsTo_95 (by decide) ?_
            first
              | (have g1 := h48; exact r2 _ ((hf.at _).tr hf1) (by rw [hv1, w_k1, if_pos (w_kin_t (P := s_stepP 1 p q) (Q := s_stepQ 1 p q) h48 h58 h67), ← hv]; rfl))
              | (have g1 := h48; exact r2 _ (hf.at _) (by rw [w_k1, if_neg (w_kin_f (P := s_stepP 1 p q) (Q := s_stepQ 1 p q) (Or.inl g1))]; exact hv))
              | (have g1 := h58; exact r2 _ (hf.at _) (by rw [w_k1, if_neg (w_kin_f (P := s_stepP 1 p q) (Q := s_stepQ 1 p q) (Or.inr (Or.inl g1)))]; exact hv))
              | (have g1 := h67; exact r2 _ (hf.at _) (by rw [w_k1, if_neg (w_kin_f (P := s_stepP 1 p q) (Q := s_stepQ 1 p q) (Or.inr (Or.inr g1)))]; exact hv))
          · refine pv_aload_0 (pc := 71) dX12_keepsTo_71 ?_
            refine pv_iload_1 (pc := 72) dX12_keepsTo_72 ?_
            refine pv_iconst (pc := 73) (v := 1) dX12_keepsTo_73 (by decide) ?_
            refine pv_iadd (pc := 74) dX12_keepsTo_74 ?_
            refine pv_topv2 (y := Int32.ofNat (k + 1)) (i_inc k) ?_
            refine pv_iload_2 (pc := 75) dX12_keepsTo_75 ?_
            refine pv_lload_3 (pc := 76) dX12_keepsTo_76 ?_
            refine pv_callVq (pc := 77) dX12_keepsTo_77 mgX12_keepsTo lv_X12_368_12 (by decide) (sx_61 hT) (by omega) (ih (k + 1) (d - 1) (by omega) (by omega) (m_at I1 (h_stc 1 (I1 73))) (m_pq L (s_stepP 1 p q) (s_stepQ 1 p q)) _ _ rfl rfl) rfl rfl (by decide) (fun v t I L Rf hq => ?_)
            obtain ⟨rfl, rfl, rfl, rfl, hf1, hv1⟩ := hq
            refine pv_aload_0 (pc := 80) dX12_keepsTo_80 ?_
            refine pv_lload_5 (pc := 81) dX12_keepsTo_81 ?_
            refine pv_putL (pc := 83) dX12_keepsTo_83 fl_X12_150_12 (fun q => by cases q) (by decide) (sx_61 hT) ?_
            refine pv_aload_0 (pc := 86) dX12_keepsTo_86 ?_
            refine pv_lload_7 (pc := 87) dX12_keepsTo_87 ?_
            refine pv_putL (pc := 89) dX12_keepsTo_89 fl_X12_153_12 (fun q => by cases q) (by decide) (sx_61 hT) ?_
            refine pv_memL (L := L) (by have e := m_pq_back L (s_stepP 1 p q) (s_stepQ 1 p q); rw [hp, hq] at e; exact e) ?_
            refine pv_iinc_9 (pc := 92) (v := 2) dX12_keepsTo_92 (by decide) (by decide) rfl ?_
            refine pv_goto (pc := 95) (tgt := 31) dX12_keepsTo_95 (by decide) ?_
            first
              | (have g1 := h48; exact r2 _ ((hf.at _).tr hf1) (by rw [hv1, w_k1, if_pos (w_kin_t (P := s_stepP 1 p q) (Q := s_stepQ 1 p q) h48 h58 h67), ← hv]; rfl))
              | (have g1 := h48; exact r2 _ (hf.at _) (by rw [w_k1, if_neg (w_kin_f (P := s_stepP 1 p q) (Q := s_stepQ 1 p q) (Or.inl g1))]; exact hv))
              | (have g1 := h58; exact r2 _ (hf.at _) (by rw [w_k1, if_neg (w_kin_f (P := s_stepP 1 p q) (Q := s_stepQ 1 p q) (Or.inr (Or.inl g1)))]; exact hv))
              | (have g1 := h67; exact r2 _ (hf.at _) (by rw [w_k1, if_neg (w_kin_f (P := s_stepP 1 p q) (Q := s_stepQ 1 p q) (Or.inr (Or.inr g1)))]; exact hv))
    have r0 : ∀ (I1 : pv_I), fk I I1 → I1 61 44 = I 61 44 → pv_V G mX12_keepsTo d 0 0 (fun v t1 I1 L1 R1 => v = none ∧ t1 = t ∧ R1 = Rf ∧ L1 = L ∧ fk I I1 ∧ I1 61 44 = w_kp b (m + 1) p q (I 61 44)) 0 0 31 [.ref 61, .int (Int32.ofNat k), .int n, .long b, .retAddr 0, .long p, .retAddr 0, .long q, .retAddr 0, .int 0] [] t I1 L Rf := by
      intro I1 hf hv
      refine pv_iload_9 (pc := 31) dX12_keepsTo_31 ?_
      refine pv_iconst (pc := 33) (v := 3) dX12_keepsTo_33 (by decide) ?_
      refine pv_icmp_ge (pc := 34) (tgt := 98) dX12_keepsTo_34 (by decide) (fun q => absurd q (by decide)) (fun _ => ?_)
      refine pv_aload_0 (pc := 37) dX12_keepsTo_37 ?_
      refine pv_iload_9 (pc := 38) dX12_keepsTo_38 ?_
      refine pv_callV0 (pc := 40) dX12_keepsTo_40 mgX12_step lv_X12_286_12 (by decide) (sx_61 hT) (by omega) (c_X12_step hT hR (by decide) (by omega)) rfl rfl (by decide) ?_
      rw [hp, hq]
      refine pv_aload_0 (pc := 43) dX12_keepsTo_43 ?_
      refine pv_getL (pc := 44) dX12_keepsTo_44 fg_X12_150_12 (by decide) (sx_61 hT) ?_
      refine pv_lload_3 (pc := 47) dX12_keepsTo_47 ?_
      refine pv_lcmp_gt (pc := 48) (tgt := 80) dX12_keepsTo_48 dX12_keepsTo_49 (by decide) (fun h48 => ?_) (fun h48 => ?_)
      · refine pv_aload_0 (pc := 80) dX12_keepsTo_80 ?_
        refine pv_lload_5 (pc := 81) dX12_keepsTo_81 ?_
        refine pv_putL (pc := 83) dX12_keepsTo_83 fl_X12_150_12 (fun q => by cases q) (by decide) (sx_61 hT) ?_
        refine pv_aload_0 (pc := 86) dX12_keepsTo_86 ?_
        refine pv_lload_7 (pc := 87) dX12_keepsTo_87 ?_
        refine pv_putL (pc := 89) dX12_keepsTo_89 fl_X12_153_12 (fun q => by cases q) (by decide) (sx_61 hT) ?_
        refine pv_memL (L := L) (by have e := m_pq_back L (s_stepP 0 p q) (s_stepQ 0 p q); rw [hp, hq] at e; exact e) ?_
        refine pv_iinc_9 (pc := 92) (v := 1) dX12_keepsTo_92 (by decide) (by decide) rfl ?_
        refine pv_goto (pc := 95) (tgt := 31) dX12_keepsTo_95 (by decide) ?_
        first
          | (have g1 := h48; exact r1 _ ((hf.at _).tr hf1) (by rw [hv1, w_k1, if_pos (w_kin_t (P := s_stepP 0 p q) (Q := s_stepQ 0 p q) h48 h58 h67), ← hv]; rfl))
          | (have g1 := h48; exact r1 _ (hf.at _) (by rw [w_k1, if_neg (w_kin_f (P := s_stepP 0 p q) (Q := s_stepQ 0 p q) (Or.inl g1))]; exact hv))
          | (have g1 := h58; exact r1 _ (hf.at _) (by rw [w_k1, if_neg (w_kin_f (P := s_stepP 0 p q) (Q := s_stepQ 0 p q) (Or.inr (Or.inl g1)))]; exact hv))
          | (have g1 := h67; exact r1 _ (hf.at _) (by rw [w_k1, if_neg (w_kin_f (P := s_stepP 0 p q) (Q := s_stepQ 0 p q) (Or.inr (Or.inr g1)))]; exact hv))
      · refine pv_aload_0 (pc := 52) dX12_keepsTo_52 ?_
        refine pv_getL (pc := 53) dX12_keepsTo_53 fg_X12_150_12 (by decide) (sx_61 hT) ?_
        refine pv_lload_3 (pc := 56) dX12_keepsTo_56 ?_
        refine pv_lneg (pc := 57) dX12_keepsTo_57 ?_
        refine pv_lcmp_lt (pc := 58) (tgt := 80) dX12_keepsTo_58 dX12_keepsTo_59 (by decide) (fun h58 => ?_) (fun h58 => ?_)
        · refine pv_aload_0 (pc := 80) dX12_keepsTo_80 ?_
          refine pv_lload_5 (pc := 81) dX12_keepsTo_81 ?_
          refine pv_putL (pc := 83) dX12_keepsTo_83 fl_X12_150_12 (fun q => by cases q) (by decide) (sx_61 hT) ?_
          refine pv_aload_0 (pc := 86) dX12_keepsTo_86 ?_
          refine pv_lload_7 (pc := 87) dX12_keepsTo_87 ?_
          refine pv_putL (pc := 89) dX12_keepsTo_89 fl_X12_153_12 (fun q => by cases q) (by decide) (sx_61 hT) ?_
          refine pv_memL (L := L) (by have e := m_pq_back L (s_stepP 0 p q) (s_stepQ 0 p q); rw [hp, hq] at e; exact e) ?_
          refine pv_iinc_9 (pc := 92) (v := 1) dX12_keepsTo_92 (by decide) (by decide) rfl ?_
          refine pv_goto (pc := 95) (tgt := 31) dX12_keepsTo_95 (by decide) ?_
          first
            | (have g1 := h48; exact r1 _ ((hf.at _).tr hf1) (by rw [hv1, w_k1, if_pos (w_kin_t (P := s_stepP 0 p q) (Q := s_stepQ 0 p q) h48 h58 h67), ← hv]; rfl))
            | (have g1 := h48; exact r1 _ (hf.at _) (by rw [w_k1, if_neg (w_kin_f (P := s_stepP 0 p q) (Q := s_stepQ 0 p q) (Or.inl g1))]; exact hv))
            | (have g1 := h58; exact r1 _ (hf.at _) (by rw [w_k1, if_neg (w_kin_f (P := s_stepP 0 p q) (Q := s_stepQ 0 p q) (Or.inr (Or.inl g1)))]; exact hv))
            | (have g1 := h67; exact r1 _ (hf.at _) (by rw [w_k1, if_neg (w_kin_f (P := s_stepP 0 p q) (Q := s_stepQ 0 p q) (Or.inr (Or.inr g1)))]; exact hv))
        · refine pv_aload_0 (pc := 62) dX12_keepsTo_62 ?_
          refine pv_getL (pc := 63) dX12_keepsTo_63 fg_X12_153_12 (by decide) (sx_61 hT) ?_
          refine pv_lload_3 (pc := 66) dX12_keepsTo_66 ?_
          refine pv_lcmp_gt (pc := 67) (tgt := 80) dX12_keepsTo_67 dX12_keepsTo_68 (by decide) (fun h67 => ?_) (fun h67 => ?_)
          · refine pv_aload_0 (pc := 80) dX12_keepsTo_80 ?_
            refine pv_lload_5 (pc := 81) dX12_keepsTo_81 ?_
            refine pv_putL (pc := 83) dX12_keepsTo_83 fl_X12_150_12 (fun q => by cases q) (by decide) (sx_61 hT) ?_
            refine pv_aload_0 (pc := 86) dX12_keepsTo_86 ?_
            refine pv_lload_7 (pc := 87) dX12_keepsTo_87 ?_
            refine pv_putL (pc := 89) dX12_keepsTo_89 fl_X12_153_12 (fun q => by cases q) (by decide) (sx_61 hT) ?_
            refine pv_memL (L := L) (by have e := m_pq_back L (s_stepP 0 p q) (s_stepQ 0 p q); rw [hp, hq] at e; exact e) ?_
            refine pv_iinc_9 (pc := 92) (v := 1) dX12_keepsTo_92 (by decide) (by decide) rfl ?_
            refine pv_goto (pc := 95) (tgt := 31) dX12_keepsTo_95 (by decide) ?_
            first
              | (have g1 := h48; exact r1 _ ((hf.at _).tr hf1) (by rw [hv1, w_k1, if_pos (w_kin_t (P := s_stepP 0 p q) (Q := s_stepQ 0 p q) h48 h58 h67), ← hv]; rfl))
              | (have g1 := h48; exact r1 _ (hf.at _) (by rw [w_k1, if_neg (w_kin_f (P := s_stepP 0 p q) (Q := s_stepQ 0 p q) (Or.inl g1))]; exact hv))
              | (have g1 := h58; exact r1 _ (hf.at _) (by rw [w_k1, if_neg (w_kin_f (P := s_stepP 0 p q) (Q := s_stepQ 0 p q) (Or.inr (Or.inl g1)))]; exact hv))
              | (have g1 := h67; exact r1 _ (hf.at _) (by rw [w_k1, if_neg (w_kin_f (P := s_stepP 0 p q) (Q := s_stepQ 0 p q) (Or.inr (Or.inr g1)))]; exact hv))
          · refine pv_aload_0 (pc := 71) dX12_keepsTo_71 ?_
            refine pv_iload_1 (pc := 72) dX12_keepsTo_72 ?_
            refine pv_iconst (pc := 73) (v := 1) dX12_keepsTo_73 (by decide) ?_
            refine pv_iadd (pc := 74) dX12_keepsTo_74 ?_
            refine pv_topv2 (y := Int32.ofNat (k + 1)) (i_inc k) ?_
            refine pv_iload_2 (pc := 75) dX12_keepsTo_75 ?_
            refine pv_lload_3 (pc := 76) dX12_keepsTo_76 ?_
            refine pv_callVq (pc := 77) dX12_keepsTo_77 mgX12_keepsTo lv_X12_368_12 (by decide) (sx_61 hT) (by omega) (ih (k + 1) (d - 1) (by omega) (by omega) (m_at I1 (h_stc 0 (I1 73))) (m_pq L (s_stepP 0 p q) (s_stepQ 0 p q)) _ _ rfl rfl) rfl rfl (by decide) (fun v t I L Rf hq => ?_)
            obtain ⟨rfl, rfl, rfl, rfl, hf1, hv1⟩ := hq
            refine pv_aload_0 (pc := 80) dX12_keepsTo_80 ?_
            refine pv_lload_5 (pc := 81) dX12_keepsTo_81 ?_
            refine pv_putL (pc := 83) dX12_keepsTo_83 fl_X12_150_12 (fun q => by cases q) (by decide) (sx_61 hT) ?_
            refine pv_aload_0 (pc := 86) dX12_keepsTo_86 ?_
            refine pv_lload_7 (pc := 87) dX12_keepsTo_87 ?_
            refine pv_putL (pc := 89) dX12_keepsTo_89 fl_X12_153_12 (fun q => by cases q) (by decide) (sx_61 hT) ?_
            refine pv_memL (L := L) (by have e := m_pq_back L (s_stepP 0 p q) (s_stepQ 0 p q); rw [hp, hq] at e; exact e) ?_
            refine pv_iinc_9 (pc := 92) (v := 1) dX12_keepsTo_92 (by decide) (by decide) rfl ?_
            refine pv_goto (pc := 95) (tgt := 31) dX12_keepsTo_95 (by decide) ?_
            first
              | (have g1 := h48; exact r1 _ ((hf.at _).tr hf1) (by rw [hv1, w_k1, if_pos (w_kin_t (P := s_stepP 0 p q) (Q := s_stepQ 0 p q) h48 h58 h67), ← hv]; rfl))
              | (have g1 := h48; exact r1 _ (hf.at _) (by rw [w_k1, if_neg (w_kin_f (P := s_stepP 0 p q) (Q := s_stepQ 0 p q) (Or.inl g1))]; exact hv))
              | (have g1 := h58; exact r1 _ (hf.at _) (by rw [w_k1, if_neg (w_kin_f (P := s_stepP 0 p q) (Q := s_stepQ 0 p q) (Or.inr (Or.inl g1)))]; exact hv))
              | (have g1 := h67; exact r1 _ (hf.at _) (by rw [w_k1, if_neg (w_kin_f (P := s_stepP 0 p q) (Q := s_stepQ 0 p q) (Or.inr (Or.inr g1)))]; exact hv))
    refine pv_mt mgX12_keepsTo.2.2.2.2.2 [.ref 61, .int (Int32.ofNat k), .int n, .long b, .retAddr 0, .retAddr 0, .retAddr 0, .retAddr 0, .retAddr 0, .retAddr 0] rfl (Nat.le_of_ble_eq_true rfl) ?_
    refine pv_iload_1 (pc := 0) dX12_keepsTo_0 ?_
    refine pv_iload_2 (pc := 1) dX12_keepsTo_1 ?_
    refine pv_icmp_ne (pc := 2) (tgt := 16) dX12_keepsTo_2 (by decide) (fun h2 => ?_) (fun h2 => absurd h2 (by intro r; rw [← Int32.toInt_inj, i_of (by omega)] at r; have := i_lit n; omega))
    refine pv_aload_0 (pc := 16) dX12_keepsTo_16 ?_
    refine pv_getL (pc := 17) dX12_keepsTo_17 fg_X12_150_12 (by decide) (sx_61 hT) ?_
    refine pv_lstore_5 (pc := 20) dX12_keepsTo_20 (by decide) rfl ?_
    refine pv_aload_0 (pc := 22) dX12_keepsTo_22 ?_
    refine pv_getL (pc := 23) dX12_keepsTo_23 fg_X12_153_12 (by decide) (sx_61 hT) ?_
    refine pv_lstore_7 (pc := 26) dX12_keepsTo_26 (by decide) rfl ?_
    refine pv_iconst (pc := 28) (v := 0) dX12_keepsTo_28 (by decide) ?_
    refine pv_istore_9 (pc := 29) dX12_keepsTo_29 (by decide) rfl ?_
    rw [hp, hq]
    exact r0 _ fk.rf rfl

set_option maxRecDepth 100000 in
set_option maxHeartbeats 4000000 in
theorem l_cn {G : pv_G} {a b : Int64} {n : Int32} {t : pv_T} {Rf : pv_R} (hT : sh_ok t) (hR : rf_ok Rf) (h0 : 0 ≤ n.toInt) (hn : n.toInt ≤ 9) : ∀ (m k d : Nat), k + m = n.toNatClampNeg → m + 2 ≤ d → ∀ (I : pv_I) (L : pv_L) (p q : Int64), L 61 18 = p → L 61 19 = q → L 61 45 = a → L 61 46 = b →
    pv_Mt G mX12_counts d 0 0 [.ref 61, .int (Int32.ofNat k), .int n] t I L Rf (fun v t1 I1 L1 R1 => v = none ∧ t1 = t ∧ R1 = Rf ∧ L1 = L ∧ fk I I1 ∧ I1 61 44 = w_cn a b m p q (I 61 44)) := by
  intro m
  induction m with
  | zero =>
    intro k d hk hd I L p q hp hq ha hb
    have hnl := i_lit n
    have hkn : Int32.ofNat k = n := by rw [← Int32.toInt_inj, i_of (by omega)]; omega
    refine pv_mt mgX12_counts.2.2.2.2.2 [.ref 61, .int (Int32.ofNat k), .int n, .retAddr 0, .retAddr 0, .retAddr 0, .retAddr 0, .retAddr 0] rfl (Nat.le_of_ble_eq_true rfl) ?_
    refine pv_iload_1 (pc := 0) dX12_counts_0 ?_
    refine pv_iload_2 (pc := 1) dX12_counts_1 ?_
    refine pv_icmp_ne (pc := 2) (tgt := 40) dX12_counts_2 (by decide) (fun h2 => absurd h2 (not_not_intro (by rw [← hkn]))) (fun h2 => ?_)
    refine pv_aload_0 (pc := 5) dX12_counts_5 ?_
    refine pv_getL (pc := 6) dX12_counts_6 fg_X12_150_12 (by decide) (sx_61 hT) ?_
    refine pv_aload_0 (pc := 9) dX12_counts_9 ?_
    refine pv_getL (pc := 10) dX12_counts_10 fg_X12_280_12 (by decide) (sx_61 hT) ?_
    refine pv_lcmp_ne (pc := 13) (tgt := 39) dX12_counts_13 dX12_counts_14 (by decide) (fun h13 => ?_) (fun h13 => ?_)
    · refine pv_vret (pc := 39) dX12_counts_39 rfl ?_
      first
        | (refine ⟨rfl, rfl, rfl, rfl, fk.rf, ?_⟩
           rw [w_cn]
           first
             | (have f1 := h13; rw [hp, ha] at f1; rw [if_neg (fun r => f1 r.1)]; done)
             | (have f1 := h25; rw [hq, hb] at f1; rw [if_neg (fun r => f1 r.2)]; done)
             | (have f1 := h13; have f2 := h25; rw [hp, ha] at f1; rw [hq, hb] at f2; rw [if_pos ⟨f1, f2⟩]; rfl))
        | (refine ⟨rfl, rfl, rfl, rfl, fk.rf.u _, ?_⟩
           rw [w_cn]
           first
             | (have f1 := h13; rw [hp, ha] at f1; rw [if_neg (fun r => f1 r.1)]; done)
             | (have f1 := h25; rw [hq, hb] at f1; rw [if_neg (fun r => f1 r.2)]; done)
             | (have f1 := h13; have f2 := h25; rw [hp, ha] at f1; rw [hq, hb] at f2; rw [if_pos ⟨f1, f2⟩]; rfl))
    · refine pv_aload_0 (pc := 17) dX12_counts_17 ?_
      refine pv_getL (pc := 18) dX12_counts_18 fg_X12_153_12 (by decide) (sx_61 hT) ?_
      refine pv_aload_0 (pc := 21) dX12_counts_21 ?_
      refine pv_getL (pc := 22) dX12_counts_22 fg_X12_283_12 (by decide) (sx_61 hT) ?_
      refine pv_lcmp_ne (pc := 25) (tgt := 39) dX12_counts_25 dX12_counts_26 (by decide) (fun h25 => ?_) (fun h25 => ?_)
      · refine pv_vret (pc := 39) dX12_counts_39 rfl ?_
        first
          | (refine ⟨rfl, rfl, rfl, rfl, fk.rf, ?_⟩
             rw [w_cn]
             first
               | (have f1 := h13; rw [hp, ha] at f1; rw [if_neg (fun r => f1 r.1)]; done)
               | (have f1 := h25; rw [hq, hb] at f1; rw [if_neg (fun r => f1 r.2)]; done)
               | (have f1 := h13; have f2 := h25; rw [hp, ha] at f1; rw [hq, hb] at f2; rw [if_pos ⟨f1, f2⟩]; rfl))
          | (refine ⟨rfl, rfl, rfl, rfl, fk.rf.u _, ?_⟩
             rw [w_cn]
             first
               | (have f1 := h13; rw [hp, ha] at f1; rw [if_neg (fun r => f1 r.1)]; done)
               | (have f1 := h25; rw [hq, hb] at f1; rw [if_neg (fun r => f1 r.2)]; done)
               | (have f1 := h13; have f2 := h25; rw [hp, ha] at f1; rw [hq, hb] at f2; rw [if_pos ⟨f1, f2⟩]; rfl))
      · refine pv_aload_0 (pc := 29) dX12_counts_29 ?_
        refine pv_dup (pc := 30) dX12_counts_30 rfl ?_
        refine pv_getI (pc := 31) dX12_counts_31 fg_X12_365_12 rfl (by decide) (sx_61 hT) ?_
        refine pv_iconst (pc := 34) (v := 1) dX12_counts_34 (by decide) ?_
        refine pv_iadd (pc := 35) dX12_counts_35 ?_
        refine pv_putI (pc := 36) dX12_counts_36 fl_X12_365_12 (fun q => by cases q) ⟨rfl, rfl, rfl⟩ (by decide) (sx_61 hT) ?_
        refine pv_vret (pc := 39) dX12_counts_39 rfl ?_
        first
          | (refine ⟨rfl, rfl, rfl, rfl, fk.rf, ?_⟩
             rw [w_cn]
             first
               | (have f1 := h13; rw [hp, ha] at f1; rw [if_neg (fun r => f1 r.1)]; done)
               | (have f1 := h25; rw [hq, hb] at f1; rw [if_neg (fun r => f1 r.2)]; done)
               | (have f1 := h13; have f2 := h25; rw [hp, ha] at f1; rw [hq, hb] at f2; rw [if_pos ⟨f1, f2⟩]; rfl))
          | (refine ⟨rfl, rfl, rfl, rfl, fk.rf.u _, ?_⟩
             rw [w_cn]
             first
               | (have f1 := h13; rw [hp, ha] at f1; rw [if_neg (fun r => f1 r.1)]; done)
               | (have f1 := h25; rw [hq, hb] at f1; rw [if_neg (fun r => f1 r.2)]; done)
               | (have f1 := h13; have f2 := h25; rw [hp, ha] at f1; rw [hq, hb] at f2; rw [if_pos ⟨f1, f2⟩]; rfl))
  | succ m ih =>
    intro k d hk hd I L p q hp hq ha hb
    have hnl := i_lit n
    refine pv_mt mgX12_counts.2.2.2.2.2 [.ref 61, .int (Int32.ofNat k), .int n, .retAddr 0, .retAddr 0, .retAddr 0, .retAddr 0, .retAddr 0] rfl (Nat.le_of_ble_eq_true rfl) ?_
    refine pv_iload_1 (pc := 0) dX12_counts_0 ?_
    refine pv_iload_2 (pc := 1) dX12_counts_1 ?_
    refine pv_icmp_ne (pc := 2) (tgt := 40) dX12_counts_2 (by decide) (fun h2 => ?_) (fun h2 => absurd h2 (by intro r; rw [← Int32.toInt_inj, i_of (by omega)] at r; have := i_lit n; omega))
    refine pv_aload_0 (pc := 40) dX12_counts_40 ?_
    refine pv_getL (pc := 41) dX12_counts_41 fg_X12_150_12 (by decide) (sx_61 hT) ?_
    refine pv_lstore_3 (pc := 44) dX12_counts_44 (by decide) rfl ?_
    refine pv_aload_0 (pc := 45) dX12_counts_45 ?_
    refine pv_getL (pc := 46) dX12_counts_46 fg_X12_153_12 (by decide) (sx_61 hT) ?_
    refine pv_lstore_5 (pc := 49) dX12_counts_49 (by decide) rfl ?_
    refine pv_iconst (pc := 51) (v := 0) dX12_counts_51 (by decide) ?_
    refine pv_istore_7 (pc := 52) dX12_counts_52 (by decide) rfl ?_
    refine pv_iload_7 (pc := 54) dX12_counts_54 ?_
    refine pv_iconst (pc := 56) (v := 3) dX12_counts_56 (by decide) ?_
    refine pv_icmp_ge (pc := 57) (tgt := 91) dX12_counts_57 (by decide) (fun q => absurd q (by decide)) (fun _ => ?_)
    refine pv_aload_0 (pc := 60) dX12_counts_60 ?_
    refine pv_iload_7 (pc := 61) dX12_counts_61 ?_
    refine pv_callV0 (pc := 63) dX12_counts_63 mgX12_step lv_X12_286_12 (by decide) (sx_61 hT) (by omega) (c_X12_step hT hR (by decide) (by omega)) rfl rfl (by decide) ?_
    refine pv_aload_0 (pc := 66) dX12_counts_66 ?_
    refine pv_iload_1 (pc := 67) dX12_counts_67 ?_
    refine pv_iconst (pc := 68) (v := 1) dX12_counts_68 (by decide) ?_
    refine pv_iadd (pc := 69) dX12_counts_69 ?_
    refine pv_topv2 (y := Int32.ofNat (k + 1)) (i_inc k) ?_
    refine pv_iload_2 (pc := 70) dX12_counts_70 ?_
    refine pv_callVq (pc := 71) dX12_counts_71 mgX12_counts lv_X12_374_12 (by decide) (sx_61 hT) (by omega) (ih (k + 1) (d - 1) (by omega) (by omega) _ _ (s_stepP 0 p q) (s_stepQ 0 p q) (by rw [← hp, ← hq]; rfl) (by rw [← hp, ← hq]; rfl) ha hb) rfl rfl (by decide) (fun v t I L Rf hq => ?_)
    obtain ⟨rfl, rfl, rfl, rfl, hf0, hv0⟩ := hq
    have hF0 : fk _ I := (fk.rf.at _).tr hf0
    refine pv_aload_0 (pc := 74) dX12_counts_74 ?_
    refine pv_lload_3 (pc := 75) dX12_counts_75 ?_
    refine pv_putL (pc := 76) dX12_counts_76 fl_X12_150_12 (fun q => by cases q) (by decide) (sx_61 hT) ?_
    refine pv_aload_0 (pc := 79) dX12_counts_79 ?_
    refine pv_lload_5 (pc := 80) dX12_counts_80 ?_
    refine pv_putL (pc := 82) dX12_counts_82 fl_X12_153_12 (fun q => by cases q) (by decide) (sx_61 hT) ?_
    refine pv_memL (L := L) (m_pq_back L _ _) ?_
    refine pv_iinc_7 (pc := 85) (v := 1) dX12_counts_85 (by decide) (by decide) rfl ?_
    refine pv_goto (pc := 88) (tgt := 54) dX12_counts_88 (by decide) ?_
    refine pv_iload_7 (pc := 54) dX12_counts_54 ?_
    refine pv_iconst (pc := 56) (v := 3) dX12_counts_56 (by decide) ?_
    refine pv_icmp_ge (pc := 57) (tgt := 91) dX12_counts_57 (by decide) (fun q => absurd q (by decide)) (fun _ => ?_)
    refine pv_aload_0 (pc := 60) dX12_counts_60 ?_
    refine pv_iload_7 (pc := 61) dX12_counts_61 ?_
    refine pv_callV0 (pc := 63) dX12_counts_63 mgX12_step lv_X12_286_12 (by decide) (sx_61 hT) (by omega) (c_X12_step hT hR (by decide) (by omega)) rfl rfl (by decide) ?_
    refine pv_aload_0 (pc := 66) dX12_counts_66 ?_
    refine pv_iload_1 (pc := 67) dX12_counts_67 ?_
    refine pv_iconst (pc := 68) (v := 1) dX12_counts_68 (by decide) ?_
    refine pv_iadd (pc := 69) dX12_counts_69 ?_
    refine pv_topv2 (y := Int32.ofNat (k + 1)) (i_inc k) ?_
    refine pv_iload_2 (pc := 70) dX12_counts_70 ?_
    refine pv_callVq (pc := 71) dX12_counts_71 mgX12_counts lv_X12_374_12 (by decide) (sx_61 hT) (by omega) (ih (k + 1) (d - 1) (by omega) (by omega) _ _ (s_stepP 1 p q) (s_stepQ 1 p q) (by rw [← hp, ← hq]; rfl) (by rw [← hp, ← hq]; rfl) ha hb) rfl rfl (by decide) (fun v t I L Rf hq => ?_)
    obtain ⟨rfl, rfl, rfl, rfl, hf1, hv1⟩ := hq
    have hF1 : fk _ I := hF0.tr ((fk.rf.at _).tr hf1)
    refine pv_aload_0 (pc := 74) dX12_counts_74 ?_
    refine pv_lload_3 (pc := 75) dX12_counts_75 ?_
    refine pv_putL (pc := 76) dX12_counts_76 fl_X12_150_12 (fun q => by cases q) (by decide) (sx_61 hT) ?_
    refine pv_aload_0 (pc := 79) dX12_counts_79 ?_
    refine pv_lload_5 (pc := 80) dX12_counts_80 ?_
    refine pv_putL (pc := 82) dX12_counts_82 fl_X12_153_12 (fun q => by cases q) (by decide) (sx_61 hT) ?_
    refine pv_memL (L := L) (m_pq_back L _ _) ?_
    refine pv_iinc_7 (pc := 85) (v := 2) dX12_counts_85 (by decide) (by decide) rfl ?_
    refine pv_goto (pc := 88) (tgt := 54) dX12_counts_88 (by decide) ?_
    refine pv_iload_7 (pc := 54) dX12_counts_54 ?_
    refine pv_iconst (pc := 56) (v := 3) dX12_counts_56 (by decide) ?_
    refine pv_icmp_ge (pc := 57) (tgt := 91) dX12_counts_57 (by decide) (fun q => absurd q (by decide)) (fun _ => ?_)
    refine pv_aload_0 (pc := 60) dX12_counts_60 ?_
    refine pv_iload_7 (pc := 61) dX12_counts_61 ?_
    refine pv_callV0 (pc := 63) dX12_counts_63 mgX12_step lv_X12_286_12 (by decide) (sx_61 hT) (by omega) (c_X12_step hT hR (by decide) (by omega)) rfl rfl (by decide) ?_
    refine pv_aload_0 (pc := 66) dX12_counts_66 ?_
    refine pv_iload_1 (pc := 67) dX12_counts_67 ?_
    refine pv_iconst (pc := 68) (v := 1) dX12_counts_68 (by decide) ?_
    refine pv_iadd (pc := 69) dX12_counts_69 ?_
    refine pv_topv2 (y := Int32.ofNat (k + 1)) (i_inc k) ?_
    refine pv_iload_2 (pc := 70) dX12_counts_70 ?_
    refine pv_callVq (pc := 71) dX12_counts_71 mgX12_counts lv_X12_374_12 (by decide) (sx_61 hT) (by omega) (ih (k + 1) (d - 1) (by omega) (by omega) _ _ (s_stepP 2 p q) (s_stepQ 2 p q) (by rw [← hp, ← hq]; rfl) (by rw [← hp, ← hq]; rfl) ha hb) rfl rfl (by decide) (fun v t I L Rf hq => ?_)
    obtain ⟨rfl, rfl, rfl, rfl, hf2, hv2⟩ := hq
    have hF2 : fk _ I := hF1.tr ((fk.rf.at _).tr hf2)
    refine pv_aload_0 (pc := 74) dX12_counts_74 ?_
    refine pv_lload_3 (pc := 75) dX12_counts_75 ?_
    refine pv_putL (pc := 76) dX12_counts_76 fl_X12_150_12 (fun q => by cases q) (by decide) (sx_61 hT) ?_
    refine pv_aload_0 (pc := 79) dX12_counts_79 ?_
    refine pv_lload_5 (pc := 80) dX12_counts_80 ?_
    refine pv_putL (pc := 82) dX12_counts_82 fl_X12_153_12 (fun q => by cases q) (by decide) (sx_61 hT) ?_
    refine pv_memL (L := L) (m_pq_back L _ _) ?_
    refine pv_iinc_7 (pc := 85) (v := 3) dX12_counts_85 (by decide) (by decide) rfl ?_
    refine pv_goto (pc := 88) (tgt := 54) dX12_counts_88 (by decide) ?_
    refine pv_iload_7 (pc := 54) dX12_counts_54 ?_
    refine pv_iconst (pc := 56) (v := 3) dX12_counts_56 (by decide) ?_
    refine pv_icmp_ge (pc := 57) (tgt := 91) dX12_counts_57 (by decide) (fun _ => ?_) (fun q => absurd q (by decide))
    refine pv_vret (pc := 91) dX12_counts_91 rfl ?_
    exact ⟨rfl, rfl, rfl, rfl, hF2, hv2.trans (congrArg (w_cn a b m (s_stepP 2 p q) (s_stepQ 2 p q)) (hv1.trans (congrArg (w_cn a b m (s_stepP 1 p q) (s_stepQ 1 p q)) hv0)))⟩

def S_kept (J : pv_I) (K : pv_L) (n : Int32) (b : Int64) : SR := if n < 0 ∨ 9 < n ∨ b < 1 ∨ 1000000 < b then S_ref J K 6 (.int (-6)) else (.int (w_kp b n.toNatClampNeg (K 0 0) (K 0 1) 0), J, K)
def S_lot (J : pv_I) (K : pv_L) (n : Int32) (a b : Int64) : SR := if n < 0 ∨ 9 < n ∨ s_num a b = false then S_ref J K 6 (.int (-6)) else (.int (w_cn a b n.toNatClampNeg (K 0 0) (K 0 1) 0), J, K)
set_option maxRecDepth 100000 in
set_option maxHeartbeats 4000000 in
theorem c_X12_kept {G : pv_G} {d : Nat} {J : pv_I} {K : pv_L} {n : Int32} {b : Int64} {t : pv_T} {I : pv_I} {L : pv_L} {Rf : pv_R} (hT : sh_ok t) (hR : rf_ok Rf) (hW : WF J K) (hM : RM J K I L) (hd16 : 16 ≤ d) : pv_Mt G mX12_kept d 0 0 [.ref 61, .int n, .long b] t I L Rf (qM (S_kept J K n b) t I L Rf) := by
  refine pv_mt mgX12_kept.2.2.2.2.2 [.ref 61, .int n, .long b, .retAddr 0] rfl (Nat.le_of_ble_eq_true rfl) ?_
  have hd : 6 ≤ d := by omega
  obtain ⟨⟨m0, m1, m2, m3, m4, m5, m6, m7, m8⟩, mf, mst, mh, mr, mt, mc, mi⟩ := id hM
  refine pv_iload_1 (pc := 0) dX12_kept_0 ?_
  refine pv_if_lt (pc := 1) (tgt := 24) dX12_kept_1 (by decide) (fun h1 => ?_) (fun h1 => ?_)
  · refine pv_aload_0 (pc := 24) dX12_kept_24 ?_
    refine pv_bipush (pc := 25) (v := (-6)) dX12_kept_25 (by decide) ?_
    refine pv_callV1 (pc := 27) dX12_kept_27 mgX12_no lv_X12_115_12 (by decide) (sx_61 hT) (by omega) (c_X12_no (k := 6) hT hR (by decide) (by unfold vp_in; decide)) rfl rfl (by decide) ?_
    refine pv_iret (pc := 30) dX12_kept_30 rfl rfl ?_
    first
      | (have f1 := h1; refine qM.ref hM k_l6 ?_; unfold S_kept; rw [if_pos (Or.inl f1)]; done)
      | (have f1 := h7; refine qM.ref hM k_l6 ?_; unfold S_kept; rw [if_pos (Or.inr (Or.inl f1))]; done)
      | (have f1 := h12; refine qM.ref hM k_l6 ?_; unfold S_kept; rw [if_pos (Or.inr (Or.inr (Or.inl f1)))]; done)
      | (have f1 := h20; refine qM.ref hM k_l6 ?_; unfold S_kept; rw [if_pos (Or.inr (Or.inr (Or.inr f1)))]; done)
  · refine pv_iload_1 (pc := 4) dX12_kept_4 ?_
    refine pv_bipush (pc := 5) (v := 9) dX12_kept_5 (by decide) ?_
    refine pv_icmp_gt (pc := 7) (tgt := 24) dX12_kept_7 (by decide) (fun h7 => ?_) (fun h7 => ?_)
    · refine pv_aload_0 (pc := 24) dX12_kept_24 ?_
      refine pv_bipush (pc := 25) (v := (-6)) dX12_kept_25 (by decide) ?_
      refine pv_callV1 (pc := 27) dX12_kept_27 mgX12_no lv_X12_115_12 (by decide) (sx_61 hT) (by omega) (c_X12_no (k := 6) hT hR (by decide) (by unfold vp_in; decide)) rfl rfl (by decide) ?_
      refine pv_iret (pc := 30) dX12_kept_30 rfl rfl ?_
      first
        | (have f1 := h1; refine qM.ref hM k_l6 ?_; unfold S_kept; rw [if_pos (Or.inl f1)]; done)
        | (have f1 := h7; refine qM.ref hM k_l6 ?_; unfold S_kept; rw [if_pos (Or.inr (Or.inl f1))]; done)
        | (have f1 := h12; refine qM.ref hM k_l6 ?_; unfold S_kept; rw [if_pos (Or.inr (Or.inr (Or.inl f1)))]; done)
        | (have f1 := h20; refine qM.ref hM k_l6 ?_; unfold S_kept; rw [if_pos (Or.inr (Or.inr (Or.inr f1)))]; done)
    · refine pv_lload_2 (pc := 10) dX12_kept_10 ?_
      refine pv_lconst (pc := 11) (v := 1) dX12_kept_11 (by decide) ?_
      refine pv_lcmp_lt (pc := 12) (tgt := 24) dX12_kept_12 dX12_kept_13 (by decide) (fun h12 => ?_) (fun h12 => ?_)
      · refine pv_aload_0 (pc := 24) dX12_kept_24 ?_
        refine pv_bipush (pc := 25) (v := (-6)) dX12_kept_25 (by decide) ?_
        refine pv_callV1 (pc := 27) dX12_kept_27 mgX12_no lv_X12_115_12 (by decide) (sx_61 hT) (by omega) (c_X12_no (k := 6) hT hR (by decide) (by unfold vp_in; decide)) rfl rfl (by decide) ?_
        refine pv_iret (pc := 30) dX12_kept_30 rfl rfl ?_
        first
          | (have f1 := h1; refine qM.ref hM k_l6 ?_; unfold S_kept; rw [if_pos (Or.inl f1)]; done)
          | (have f1 := h7; refine qM.ref hM k_l6 ?_; unfold S_kept; rw [if_pos (Or.inr (Or.inl f1))]; done)
          | (have f1 := h12; refine qM.ref hM k_l6 ?_; unfold S_kept; rw [if_pos (Or.inr (Or.inr (Or.inl f1)))]; done)
          | (have f1 := h20; refine qM.ref hM k_l6 ?_; unfold S_kept; rw [if_pos (Or.inr (Or.inr (Or.inr f1)))]; done)
      · refine pv_lload_2 (pc := 16) dX12_kept_16 ?_
        refine pv_ldc2 (pc := 17) dX12_kept_17 k_X12_372 ?_
        refine pv_lcmp_le (pc := 20) (tgt := 31) dX12_kept_20 dX12_kept_21 (by decide) (fun h20 => ?_) (fun h20 => ?_)
        · have hnl := i_lit n
          have q0 := h1
          have q9 := h7
          simp only [i_lt, (show (0 : Int32).toInt = 0 from by decide), (show (9 : Int32).toInt = 9 from by decide)] at q0 q9
          refine pv_aload_0 (pc := 31) dX12_kept_31 ?_
          refine pv_callV0 (pc := 32) dX12_kept_32 mgX12_begins lv_X12_230_12 (by decide) (sx_61 hT) (by omega) (n_begins hT hR hM) rfl rfl (by decide) ?_
          refine pv_aload_0 (pc := 35) dX12_kept_35 ?_
          refine pv_iconst (pc := 36) (v := 0) dX12_kept_36 (by decide) ?_
          refine pv_putI (pc := 37) dX12_kept_37 fl_X12_365_12 (fun q => by cases q) ⟨rfl, rfl, rfl⟩ (by decide) (sx_61 hT) ?_
          refine pv_aload_0 (pc := 40) dX12_kept_40 ?_
          refine pv_iconst (pc := 41) (v := 0) dX12_kept_41 (by decide) ?_
          refine pv_iload_1 (pc := 42) dX12_kept_42 ?_
          refine pv_lload_2 (pc := 43) dX12_kept_43 ?_
          refine pv_callVq (pc := 44) dX12_kept_44 mgX12_keepsTo lv_X12_368_12 (by decide) (sx_61 hT) (by omega) (l_kp hT hR (by omega) (by omega) n.toNatClampNeg 0 (d - 1) (by omega) (by omega) _ _ (K 0 0) (K 0 1) rfl rfl) rfl rfl (by decide) (fun v t I L Rf hq => ?_)
          obtain ⟨rfl, rfl, rfl, rfl, hf, hv⟩ := hq
          refine pv_aload_0 (pc := 47) dX12_kept_47 ?_
          refine pv_getI (pc := 48) dX12_kept_48 fg_X12_365_12 rfl (by decide) (sx_61 hT) ?_
          refine pv_iret (pc := 51) dX12_kept_51 rfl rfl ?_
          refine qM.scr hM ((((kS.rf.at _).pq _ _).uI 61 44 0 (by decide)).tr hf.kS) ?_
          unfold S_kept
          rw [if_neg (fun r => r.elim h1 (fun r => r.elim h7 (fun r => r.elim h12 h20))), hv]
          rfl
        · refine pv_aload_0 (pc := 24) dX12_kept_24 ?_
          refine pv_bipush (pc := 25) (v := (-6)) dX12_kept_25 (by decide) ?_
          refine pv_callV1 (pc := 27) dX12_kept_27 mgX12_no lv_X12_115_12 (by decide) (sx_61 hT) (by omega) (c_X12_no (k := 6) hT hR (by decide) (by unfold vp_in; decide)) rfl rfl (by decide) ?_
          refine pv_iret (pc := 30) dX12_kept_30 rfl rfl ?_
          first
            | (have f1 := h1; refine qM.ref hM k_l6 ?_; unfold S_kept; rw [if_pos (Or.inl f1)]; done)
            | (have f1 := h7; refine qM.ref hM k_l6 ?_; unfold S_kept; rw [if_pos (Or.inr (Or.inl f1))]; done)
            | (have f1 := h12; refine qM.ref hM k_l6 ?_; unfold S_kept; rw [if_pos (Or.inr (Or.inr (Or.inl f1)))]; done)
            | (have f1 := h20; refine qM.ref hM k_l6 ?_; unfold S_kept; rw [if_pos (Or.inr (Or.inr (Or.inr f1)))]; done)

set_option maxRecDepth 100000 in
set_option maxHeartbeats 4000000 in
theorem c_X12_lot {G : pv_G} {d : Nat} {J : pv_I} {K : pv_L} {n : Int32} {a b : Int64} {t : pv_T} {I : pv_I} {L : pv_L} {Rf : pv_R} (hT : sh_ok t) (hR : rf_ok Rf) (hW : WF J K) (hM : RM J K I L) (hd16 : 16 ≤ d) : pv_Mt G mX12_lot d 0 0 [.ref 61, .int n, .long a, .long b] t I L Rf (qM (S_lot J K n a b) t I L Rf) := by
  refine pv_mt mgX12_lot.2.2.2.2.2 [.ref 61, .int n, .long a, .retAddr 0, .long b, .retAddr 0] rfl (Nat.le_of_ble_eq_true rfl) ?_
  have hd : 6 ≤ d := by omega
  obtain ⟨⟨m0, m1, m2, m3, m4, m5, m6, m7, m8⟩, mf, mst, mh, mr, mt, mc, mi⟩ := id hM
  refine pv_iload_1 (pc := 0) dX12_lot_0 ?_
  refine pv_if_lt (pc := 1) (tgt := 20) dX12_lot_1 (by decide) (fun h1 => ?_) (fun h1 => ?_)
  · refine pv_aload_0 (pc := 20) dX12_lot_20 ?_
    refine pv_bipush (pc := 21) (v := (-6)) dX12_lot_21 (by decide) ?_
    refine pv_callV1 (pc := 23) dX12_lot_23 mgX12_no lv_X12_115_12 (by decide) (sx_61 hT) (by omega) (c_X12_no (k := 6) hT hR (by decide) (by unfold vp_in; decide)) rfl rfl (by decide) ?_
    refine pv_iret (pc := 26) dX12_lot_26 rfl rfl ?_
    first
      | (have f1 := h1; refine qM.ref hM k_l6 ?_; unfold S_lot; rw [if_pos (Or.inl f1)]; done)
      | (have f1 := h7; refine qM.ref hM k_l6 ?_; unfold S_lot; rw [if_pos (Or.inr (Or.inl f1))]; done)
      | (have f1 := (pv_b_0 _).mp h17; refine qM.ref hM k_l6 ?_; unfold S_lot; rw [if_pos (Or.inr (Or.inr f1))]; done)
  · refine pv_iload_1 (pc := 4) dX12_lot_4 ?_
    refine pv_bipush (pc := 5) (v := 9) dX12_lot_5 (by decide) ?_
    refine pv_icmp_gt (pc := 7) (tgt := 20) dX12_lot_7 (by decide) (fun h7 => ?_) (fun h7 => ?_)
    · refine pv_aload_0 (pc := 20) dX12_lot_20 ?_
      refine pv_bipush (pc := 21) (v := (-6)) dX12_lot_21 (by decide) ?_
      refine pv_callV1 (pc := 23) dX12_lot_23 mgX12_no lv_X12_115_12 (by decide) (sx_61 hT) (by omega) (c_X12_no (k := 6) hT hR (by decide) (by unfold vp_in; decide)) rfl rfl (by decide) ?_
      refine pv_iret (pc := 26) dX12_lot_26 rfl rfl ?_
      first
        | (have f1 := h1; refine qM.ref hM k_l6 ?_; unfold S_lot; rw [if_pos (Or.inl f1)]; done)
        | (have f1 := h7; refine qM.ref hM k_l6 ?_; unfold S_lot; rw [if_pos (Or.inr (Or.inl f1))]; done)
        | (have f1 := (pv_b_0 _).mp h17; refine qM.ref hM k_l6 ?_; unfold S_lot; rw [if_pos (Or.inr (Or.inr f1))]; done)
    · refine pv_aload_0 (pc := 10) dX12_lot_10 ?_
      refine pv_lload_2 (pc := 11) dX12_lot_11 ?_
      refine pv_lload_4 (pc := 12) dX12_lot_12 ?_
      refine pv_callV1 (pc := 14) dX12_lot_14 mgX12_isNumber lv_X12_143_12 (by decide) (sx_61 hT) (by omega) (c_X12_isNumber hT (by omega)) rfl rfl (by decide) ?_
      refine pv_if_ne (pc := 17) (tgt := 27) dX12_lot_17 (by decide) (fun h17 => ?_) (fun h17 => ?_)
      · have hnl := i_lit n
        have q0 := h1
        have q9 := h7
        simp only [i_lt, (show (0 : Int32).toInt = 0 from by decide), (show (9 : Int32).toInt = 9 from by decide)] at q0 q9
        refine pv_aload_0 (pc := 27) dX12_lot_27 ?_
        refine pv_lload_2 (pc := 28) dX12_lot_28 ?_
        refine pv_putL (pc := 29) dX12_lot_29 fl_X12_280_12 (fun q => by cases q) (by decide) (sx_61 hT) ?_
        refine pv_aload_0 (pc := 32) dX12_lot_32 ?_
        refine pv_lload_4 (pc := 33) dX12_lot_33 ?_
        refine pv_putL (pc := 35) dX12_lot_35 fl_X12_283_12 (fun q => by cases q) (by decide) (sx_61 hT) ?_
        have hk1 := ((kS.rf (I := I) (L := L)).uL 61 45 a (by decide)).uL 61 46 b (by decide)
        have hM1 := hM.scr hk1
        refine pv_aload_0 (pc := 38) dX12_lot_38 ?_
        refine pv_callV0 (pc := 39) dX12_lot_39 mgX12_begins lv_X12_230_12 (by decide) (sx_61 hT) (by omega) (n_begins hT hR hM1) rfl rfl (by decide) ?_
        refine pv_aload_0 (pc := 42) dX12_lot_42 ?_
        refine pv_iconst (pc := 43) (v := 0) dX12_lot_43 (by decide) ?_
        refine pv_putI (pc := 44) dX12_lot_44 fl_X12_365_12 (fun q => by cases q) ⟨rfl, rfl, rfl⟩ (by decide) (sx_61 hT) ?_
        refine pv_aload_0 (pc := 47) dX12_lot_47 ?_
        refine pv_iconst (pc := 48) (v := 0) dX12_lot_48 (by decide) ?_
        refine pv_iload_1 (pc := 49) dX12_lot_49 ?_
        refine pv_callVq (pc := 50) dX12_lot_50 mgX12_counts lv_X12_374_12 (by decide) (sx_61 hT) (by omega) (l_cn (a := a) (b := b) hT hR (by omega) (by omega) n.toNatClampNeg 0 (d - 1) (by omega) (by omega) _ _ (K 0 0) (K 0 1) rfl rfl rfl rfl) rfl rfl (by decide) (fun v t I L Rf hq => ?_)
        obtain ⟨rfl, rfl, rfl, rfl, hf, hv⟩ := hq
        refine pv_aload_0 (pc := 53) dX12_lot_53 ?_
        refine pv_getI (pc := 54) dX12_lot_54 fg_X12_365_12 rfl (by decide) (sx_61 hT) ?_
        refine pv_iret (pc := 57) dX12_lot_57 rfl rfl ?_
        refine qM.scr hM ((((hk1.at _).pq _ _).uI 61 44 0 (by decide)).tr hf.kS) ?_
        unfold S_lot
        have f1 := (pv_b_n0 _).mp h17
        rw [if_neg (fun r => r.elim h1 (fun r => r.elim h7 (fun r => by rw [f1] at r; cases r))), hv]
        rfl
      · refine pv_aload_0 (pc := 20) dX12_lot_20 ?_
        refine pv_bipush (pc := 21) (v := (-6)) dX12_lot_21 (by decide) ?_
        refine pv_callV1 (pc := 23) dX12_lot_23 mgX12_no lv_X12_115_12 (by decide) (sx_61 hT) (by omega) (c_X12_no (k := 6) hT hR (by decide) (by unfold vp_in; decide)) rfl rfl (by decide) ?_
        refine pv_iret (pc := 26) dX12_lot_26 rfl rfl ?_
        first
          | (have f1 := h1; refine qM.ref hM k_l6 ?_; unfold S_lot; rw [if_pos (Or.inl f1)]; done)
          | (have f1 := h7; refine qM.ref hM k_l6 ?_; unfold S_lot; rw [if_pos (Or.inr (Or.inl f1))]; done)
          | (have f1 := (pv_b_0 _).mp h17; refine qM.ref hM k_l6 ?_; unfold S_lot; rw [if_pos (Or.inr (Or.inr f1))]; done)

