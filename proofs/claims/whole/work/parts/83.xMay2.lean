/-! the class: may -/
theorem w_fb2_b {J : pv_I} {K : pv_L} {s n x : Int32} (hb : ¬ w_bars J s n = 0) : w_fb2 J K s n x = w_bars J s n := by
  have e : w_fbar J K s n = w_bars J s n := by unfold w_fbar; rw [if_neg hb]
  unfold w_fb2
  rw [e, if_neg]
  rintro ⟨h | h, -⟩
  · exact hb h
  · rcases w_bars_c J s n with q | q | q | q | q | q <;> rw [q] at h <;> exact absurd h (by decide)
theorem w_fb2_x {J : pv_I} {K : pv_L} {s n x : Int32} (hb : w_bars J s n = 0) (hx : x < 0 ∨ 3 < x) : w_fb2 J K s n x = -5 := by
  unfold w_fb2
  rw [if_pos]
  refine ⟨?_, hx⟩
  rw [w_fbar_nf hb]
  rcases x_nf_c (K (1 + s.toNatClampNeg)) n with q | q | q <;> rw [q]
  · rw [if_pos rfl]
    split
    · exact Or.inl rfl
    · exact Or.inr (by decide)
  · rw [if_neg (by decide)]; exact Or.inr (by decide)
  · rw [if_neg (by decide)]; exact Or.inr (by decide)
theorem w_fb2_i {J : pv_I} {K : pv_L} {s n x : Int32} (h0 : ¬ x < 0) (h3 : ¬ 3 < x) : w_fb2 J K s n x = w_fbar J K s n := by
  unfold w_fb2
  rw [if_neg (fun q => q.2.elim h0 h3)]
theorem i_0123 {x : Int32} (h0 : ¬ x < 0) (h3 : ¬ 3 < x) : x = 0 ∨ x = 1 ∨ x = 2 ∨ x = 3 := w_val_c h0 h3
theorem may_best {g : Bool} {cl : CL} {ml : ML} {e : Int64 × Int64} (h : x_best g (fun x => x ∈ c_keys cl) e) (g3 : ∀ y, y ∈ c_keys cl ↔ y ∈ ml) (g4 : ∀ y ∈ c_keys cl, x_P y) (g5 : ml ≠ []) : w_bst g ml = e := by
  have e1 : (fun x => x ∈ c_keys cl) = (fun x => x ∈ ml) := by funext x; exact propext (g3 x)
  rw [e1] at h
  exact x_best_one (b := 2 ^ 42) (fun x hx => (g4 x ((g3 x).mpr hx)).1) (w_bst_best (b := 2 ^ 42) g ml (fun x hx => (g4 x ((g3 x).mpr hx)).1) g5) h

set_option maxRecDepth 100000 in
set_option maxHeartbeats 4000000 in
theorem c_X11_may {G : pv_G} {d : Nat} {J : pv_I} {K : pv_L} {s n x : Int32} {t : pv_T} {I : pv_I} {L : pv_L} {Rf : pv_R} (hW : WF J K) (hX : RX J K t I L Rf)  (hd : 60 ≤ d) : pv_Mt G mX11_may d 0 0 [.ref 16, .int s, .int n, .int x] t I L Rf (qX (S_may J K s n x) I L) := by
  refine pv_mt mgX11_may.2.2.2.2.2 [.ref 16, .int s, .int n, .int x, .retAddr 0, .retAddr 0, .retAddr 0] rfl (Nat.le_of_ble_eq_true rfl) ?_
  have hT := hX.1
  have hR := hX.2.1
  obtain ⟨-, -, ⟨xp, xq, xn, xst, xsp, xsd, xc⟩, xf, xs, xb, xi⟩ := id hX
  by_cases hb : w_bars J s n = 0
  · obtain ⟨hin, hs8, n0, n160, hz, hz2, hcell⟩ := w_bars_x hW hX hb
    by_cases hx0 : x < 0
    · have hx : x < 0 ∨ 3 < x := Or.inl hx0
      refine pv_aload_0 (pc := 0) dX11_may_0 ?_
      refine pv_iload_1 (pc := 1) dX11_may_1 ?_
      refine pv_iload_2 (pc := 2) dX11_may_2 ?_
      refine pv_callV1 (pc := 3) dX11_may_3 mgX11_noPart lv_X11_203_11 (by decide) (sx_16 hT) (by omega) (x_np0 hW hX hb (by omega)) rfl rfl (by decide) ?_
      refine pv_istore_4 (pc := 6) dX11_may_6 (by decide) rfl ?_
      refine pv_iload_4 (pc := 8) dX11_may_8 ?_
      refine pv_if_ne (pc := 10) (tgt := 25) dX11_may_10 (by decide) (fun q => absurd q (by decide)) (fun _ => ?_)
      refine pv_iload_3 (pc := 13) dX11_may_13 ?_
      refine pv_if_lt (pc := 14) (tgt := 22) dX11_may_14 (by decide) (fun h14 => ?_) (fun h14 => absurd h14 (not_not_intro hx0))
      refine pv_iconst (pc := 22) (v := 5) dX11_may_22 (by decide) ?_
      refine pv_istore_4 (pc := 23) dX11_may_23 (by decide) rfl ?_
      refine pv_iload_4 (pc := 25) dX11_may_25 ?_
      refine pv_if_ne (pc := 27) (tgt := 38) dX11_may_27 (by decide) (fun _ => ?_) (fun q => absurd q (by decide))
      refine pv_iload_4 (pc := 38) dX11_may_38 ?_
      refine pv_if_ne (pc := 40) (tgt := 52) dX11_may_40 (by decide) (fun _ => ?_) (fun q => absurd q (by decide))
      refine pv_null (pc := 52) dX11_may_52 ?_
      refine pv_astoreN_5 (pc := 53) dX11_may_53 (by decide) rfl ?_
      refine pv_aloadN_5 (pc := 55) dX11_may_55 ?_
      refine pv_ifnonnullN (pc := 57) dX11_may_57 ?_
      refine pv_aload_0 (pc := 60) dX11_may_60 ?_
      refine pv_iload_4 (pc := 61) dX11_may_61 ?_
      refine pv_if_ne (pc := 63) (tgt := 71) dX11_may_63 (by decide) (fun _ => ?_) (fun q => absurd q (by decide))
      refine pv_iload_4 (pc := 71) dX11_may_71 ?_
      refine pv_callV1 (pc := 73) dX11_may_73 mgX11_refuseFar lv_X11_183_11 (by decide) (sx_16 hT) (by omega) (c_X11_refuseFar (k := 5) hT hR (by decide) (by unfold vp_in; decide) (by omega)) rfl rfl (by decide) ?_
      refine pv_lret (pc := 76) dX11_may_76 rfl ?_
      refine qX.ref hX (by decide : 5 < 8) ?_
      unfold S_may
      rw [w_fb2_x hb hx, if_neg (by decide)]; rfl
    · by_cases hx3 : 3 < x
      · have hx : x < 0 ∨ 3 < x := Or.inr hx3
        refine pv_aload_0 (pc := 0) dX11_may_0 ?_
        refine pv_iload_1 (pc := 1) dX11_may_1 ?_
        refine pv_iload_2 (pc := 2) dX11_may_2 ?_
        refine pv_callV1 (pc := 3) dX11_may_3 mgX11_noPart lv_X11_203_11 (by decide) (sx_16 hT) (by omega) (x_np0 hW hX hb (by omega)) rfl rfl (by decide) ?_
        refine pv_istore_4 (pc := 6) dX11_may_6 (by decide) rfl ?_
        refine pv_iload_4 (pc := 8) dX11_may_8 ?_
        refine pv_if_ne (pc := 10) (tgt := 25) dX11_may_10 (by decide) (fun q => absurd q (by decide)) (fun _ => ?_)
        refine pv_iload_3 (pc := 13) dX11_may_13 ?_
        refine pv_if_lt (pc := 14) (tgt := 22) dX11_may_14 (by decide) (fun h14 => absurd h14 hx0) (fun h14 => ?_)
        refine pv_iload_3 (pc := 17) dX11_may_17 ?_
        refine pv_iconst (pc := 18) (v := 3) dX11_may_18 (by decide) ?_
        refine pv_icmp_le (pc := 19) (tgt := 25) dX11_may_19 (by decide) (fun h19 => absurd h19 (not_not_intro hx3)) (fun h19 => ?_)
        refine pv_iconst (pc := 22) (v := 5) dX11_may_22 (by decide) ?_
        refine pv_istore_4 (pc := 23) dX11_may_23 (by decide) rfl ?_
        refine pv_iload_4 (pc := 25) dX11_may_25 ?_
        refine pv_if_ne (pc := 27) (tgt := 38) dX11_may_27 (by decide) (fun _ => ?_) (fun q => absurd q (by decide))
        refine pv_iload_4 (pc := 38) dX11_may_38 ?_
        refine pv_if_ne (pc := 40) (tgt := 52) dX11_may_40 (by decide) (fun _ => ?_) (fun q => absurd q (by decide))
        refine pv_null (pc := 52) dX11_may_52 ?_
        refine pv_astoreN_5 (pc := 53) dX11_may_53 (by decide) rfl ?_
        refine pv_aloadN_5 (pc := 55) dX11_may_55 ?_
        refine pv_ifnonnullN (pc := 57) dX11_may_57 ?_
        refine pv_aload_0 (pc := 60) dX11_may_60 ?_
        refine pv_iload_4 (pc := 61) dX11_may_61 ?_
        refine pv_if_ne (pc := 63) (tgt := 71) dX11_may_63 (by decide) (fun _ => ?_) (fun q => absurd q (by decide))
        refine pv_iload_4 (pc := 71) dX11_may_71 ?_
        refine pv_callV1 (pc := 73) dX11_may_73 mgX11_refuseFar lv_X11_183_11 (by decide) (sx_16 hT) (by omega) (c_X11_refuseFar (k := 5) hT hR (by decide) (by unfold vp_in; decide) (by omega)) rfl rfl (by decide) ?_
        refine pv_lret (pc := 76) dX11_may_76 rfl ?_
        refine qX.ref hX (by decide : 5 < 8) ?_
        unfold S_may
        rw [w_fb2_x hb hx, if_neg (by decide)]; rfl
      · rcases x_nf_c (K (1 + s.toNatClampNeg)) n with hnf | hnf | hnf
        · skip
          obtain ⟨f40, fval, hth⟩ := x_nf_0 hnf
          have nl := i_lit n
          have q40 : (40 : Int32).toInt = 40 := by decide
          have n40 : n.toInt ≤ 40 := by rw [i_lt, q40] at f40; omega
          have en : n = Int32.ofNat n.toNatClampNeg := by rw [← Int32.toInt_inj, i_of (by omega)]; omega
          have hglue := forget_glue (C := K (1 + s.toNatClampNeg)) (N := n.toNatClampNeg) hW.2.2.1 fval
          have hfb := w_fbar_nf (K := K) hb
          rw [if_pos hnf] at hfb
          refine pv_aload_0 (pc := 0) dX11_may_0 ?_
          refine pv_iload_1 (pc := 1) dX11_may_1 ?_
          refine pv_iload_2 (pc := 2) dX11_may_2 ?_
          refine pv_callV1 (pc := 3) dX11_may_3 mgX11_noPart lv_X11_203_11 (by decide) (sx_16 hT) (by omega) (x_np0 hW hX hb (by omega)) rfl rfl (by decide) ?_
          refine pv_istore_4 (pc := 6) dX11_may_6 (by decide) rfl ?_
          refine pv_iload_4 (pc := 8) dX11_may_8 ?_
          refine pv_if_ne (pc := 10) (tgt := 25) dX11_may_10 (by decide) (fun q => absurd q (by decide)) (fun _ => ?_)
          refine pv_iload_3 (pc := 13) dX11_may_13 ?_
          refine pv_if_lt (pc := 14) (tgt := 22) dX11_may_14 (by decide) (fun h14 => absurd h14 hx0) (fun h14 => ?_)
          refine pv_iload_3 (pc := 17) dX11_may_17 ?_
          refine pv_iconst (pc := 18) (v := 3) dX11_may_18 (by decide) ?_
          refine pv_icmp_le (pc := 19) (tgt := 25) dX11_may_19 (by decide) (fun h19 => ?_) (fun h19 => absurd h19 hx3)
          refine pv_iload_4 (pc := 25) dX11_may_25 ?_
          refine pv_if_ne (pc := 27) (tgt := 38) dX11_may_27 (by decide) (fun q => absurd q (by decide)) (fun _ => ?_)
          refine pv_aload_0 (pc := 30) dX11_may_30 ?_
          refine pv_iload_1 (pc := 31) dX11_may_31 ?_
          refine pv_iload_2 (pc := 32) dX11_may_32 ?_
          refine pv_callV1 (pc := 33) dX11_may_33 mgX11_noForgotten lv_X11_278_11 (by decide) (sx_16 hT) (by omega) (c_nf_at (C := K (1 + s.toNatClampNeg)) (v := 0) hT hR hs8 n0 hz hz2 hcell hin hnf (by omega)) rfl rfl (by decide) ?_
          refine pv_istore_4 (pc := 36) dX11_may_36 (by decide) rfl ?_
          refine pv_iload_4 (pc := 38) dX11_may_38 ?_
          refine pv_if_ne (pc := 40) (tgt := 52) dX11_may_40 (by decide) (fun q => absurd q (by decide)) (fun _ => ?_)
          refine pv_aload_0 (pc := 43) dX11_may_43 ?_
          refine pv_iload_1 (pc := 44) dX11_may_44 ?_
          refine pv_iload_2 (pc := 45) dX11_may_45 ?_
          refine pv_callVq (pc := 46) dX11_may_46 mgX11_forget lv_X11_281_11 (by decide) (sx_16 hT) (by omega) (c_X11_forget (N := n.toNatClampNeg) (C := K (1 + s.toNatClampNeg)) hT hR hin hs8 en (by omega) (by omega) hcell xp xq hth (by omega)) rfl rfl (by decide) (fun v t I L Rf hq => ?_)
          obtain ⟨hres, rfl, rfl, hk⟩ := hq
          refine pv_goto (pc := 49) (tgt := 53) dX11_may_49 (by decide) ?_
          rcases hres with ⟨rfl, hfin⟩ | ⟨z, cl1, rfl, hz35, hfin, hxx⟩
          · skip
            refine pv_astoreN_5 (pc := 53) dX11_may_53 (by decide) rfl ?_
            refine pv_aloadN_5 (pc := 55) dX11_may_55 ?_
            refine pv_ifnonnullN (pc := 57) dX11_may_57 ?_
            refine pv_aload_0 (pc := 60) dX11_may_60 ?_
            refine pv_iload_4 (pc := 61) dX11_may_61 ?_
            refine pv_if_ne (pc := 63) (tgt := 71) dX11_may_63 (by decide) (fun q => absurd q (by decide)) (fun _ => ?_)
            refine pv_bipush (pc := 66) (v := 7) dX11_may_66 (by decide) ?_
            refine pv_goto (pc := 68) (tgt := 73) dX11_may_68 (by decide) ?_
            refine pv_callV1 (pc := 73) dX11_may_73 mgX11_refuseFar lv_X11_183_11 (by decide) (sx_16 hT) (by omega) (c_X11_refuseFar (k := 7) hT hR (by decide) (by unfold vp_in; decide) (by omega)) rfl rfl (by decide) ?_
            refine pv_lret (pc := 76) dX11_may_76 rfl ?_
            rw [hfin] at hglue
            have hgl : w_fgt (K (1 + s.toNatClampNeg)) n.toNatClampNeg 0 (K 0 0) (K 0 1) [] = none := hglue
            refine qX.scrref hX hk (by decide : 7 < 8) ?_
            rw [hgl, if_neg (by decide)] at hfb
            unfold S_may
            rw [w_fb2_i hx0 hx3, hfb, if_neg (by decide)]; rfl
          · have hcr : cr_ok t Rf z := ag_cr hT hR hz35
            rw [hfin] at hglue
            obtain ⟨ml, g1, g2, g3, g4, g5⟩ := hglue
            rw [g1, if_pos (show (some ml).isSome = true from rfl)] at hfb
            have hml : w_fml J K s n = ml := by unfold w_fml; rw [g1]; rfl
            have hlen : 0 < cl1.length := by rw [g2]; exact List.length_pos_iff.mpr g5
            rcases i_0123 hx0 hx3 with rfl | rfl | rfl | rfl
            · skip
              refine pv_astore_5 (pc := 53) dX11_may_53 (by decide) rfl ?_
              refine pv_aload_5 (pc := 55) dX11_may_55 ?_
              refine pv_ifnonnull (pc := 57) (tgt := 77) dX11_may_57 (by decide) ?_
              refine pv_iload_3 (pc := 77) dX11_may_77 ?_
              refine pv_iconst (pc := 78) (v := 2) dX11_may_78 (by decide) ?_
              refine pv_icmp_ge (pc := 79) (tgt := 91) dX11_may_79 (by decide) (fun q => absurd q (by decide)) (fun _ => ?_)
              refine pv_aload_5 (pc := 82) dX11_may_82 ?_
              refine pv_iconst (pc := 84) (v := (-1)) dX11_may_84 (by decide) ?_
              refine pv_callVq (pc := 85) dX11_may_85 mgX2_outermost lv_X11_288_2 hcr.1 hcr.2.1 (by omega) (c_X2_outermost (g := true) hcr hxx (Or.inl ⟨rfl, rfl⟩) g4 hlen (by omega)) rfl rfl (by decide) (fun v t I L Rf hq => ?_)
              obtain ⟨⟨r, e, rfl, he, hbe⟩, rfl, rfl, rfl, rfl⟩ := hq
              refine pv_goto (pc := 88) (tgt := 97) dX11_may_88 (by decide) ?_
              refine pv_istore_6 (pc := 97) dX11_may_97 (by decide) rfl ?_
              refine pv_iload_3 (pc := 99) dX11_may_99 ?_
              refine pv_if_eq (pc := 100) (tgt := 108) dX11_may_100 (by decide) (fun _ => ?_) (fun q => absurd q (by decide))
              refine pv_aload_5 (pc := 108) dX11_may_108 ?_
              refine pv_getR (pc := 110) dX11_may_110 fg_X11_291_2 rfl hcr.1 hcr.2.1 hcr.2.2.2.2.2.2.1 ?_
              refine pv_iload_6 (pc := 113) dX11_may_113 ?_
              refine pv_laloadj (pc := 115) dX11_may_115 (by have := hcr.1; omega) hcr.2.2.1 rfl (i_in (k := r) (by have := (List.getElem?_eq_some_iff.mp he).1; have := hxx.2.1; omega) (by decide)) ?_
              refine pv_goto (pc := 116) (tgt := 127) dX11_may_116 (by decide) ?_
              refine pv_lret (pc := 127) dX11_may_127 rfl ?_
              have er := i_nat (k := r) (by have := (List.getElem?_eq_some_iff.mp he).1; have := hxx.2.1; omega)
              refine qX.scr hX hk ?_
              have hbst := may_best hbe g3 g4 g5
              unfold S_may
              rw [w_fb2_i hx0 hx3, if_pos hfb, hml]
              rw [er, (hxx.2.2.2.1 r e he).1]
              show ((.long (w_bst true ml).1, J, K) : SR) = _
              rw [hbst]
            · skip
              refine pv_astore_5 (pc := 53) dX11_may_53 (by decide) rfl ?_
              refine pv_aload_5 (pc := 55) dX11_may_55 ?_
              refine pv_ifnonnull (pc := 57) (tgt := 77) dX11_may_57 (by decide) ?_
              refine pv_iload_3 (pc := 77) dX11_may_77 ?_
              refine pv_iconst (pc := 78) (v := 2) dX11_may_78 (by decide) ?_
              refine pv_icmp_ge (pc := 79) (tgt := 91) dX11_may_79 (by decide) (fun q => absurd q (by decide)) (fun _ => ?_)
              refine pv_aload_5 (pc := 82) dX11_may_82 ?_
              refine pv_iconst (pc := 84) (v := (-1)) dX11_may_84 (by decide) ?_
              refine pv_callVq (pc := 85) dX11_may_85 mgX2_outermost lv_X11_288_2 hcr.1 hcr.2.1 (by omega) (c_X2_outermost (g := true) hcr hxx (Or.inl ⟨rfl, rfl⟩) g4 hlen (by omega)) rfl rfl (by decide) (fun v t I L Rf hq => ?_)
              obtain ⟨⟨r, e, rfl, he, hbe⟩, rfl, rfl, rfl, rfl⟩ := hq
              refine pv_goto (pc := 88) (tgt := 97) dX11_may_88 (by decide) ?_
              refine pv_istore_6 (pc := 97) dX11_may_97 (by decide) rfl ?_
              refine pv_iload_3 (pc := 99) dX11_may_99 ?_
              refine pv_if_eq (pc := 100) (tgt := 108) dX11_may_100 (by decide) (fun q => absurd q (by decide)) (fun _ => ?_)
              refine pv_iload_3 (pc := 103) dX11_may_103 ?_
              refine pv_iconst (pc := 104) (v := 2) dX11_may_104 (by decide) ?_
              refine pv_icmp_ne (pc := 105) (tgt := 119) dX11_may_105 (by decide) (fun _ => ?_) (fun q => absurd q (by decide))
              refine pv_aload_5 (pc := 119) dX11_may_119 ?_
              refine pv_getR (pc := 121) dX11_may_121 fg_X11_294_2 rfl hcr.1 hcr.2.1 hcr.2.2.2.2.2.2.2.1 ?_
              refine pv_iload_6 (pc := 124) dX11_may_124 ?_
              refine pv_laloadj (pc := 126) dX11_may_126 (by have := hcr.1; omega) hcr.2.2.2.1 rfl (i_in (k := r) (by have := (List.getElem?_eq_some_iff.mp he).1; have := hxx.2.1; omega) (by decide)) ?_
              refine pv_lret (pc := 127) dX11_may_127 rfl ?_
              have er := i_nat (k := r) (by have := (List.getElem?_eq_some_iff.mp he).1; have := hxx.2.1; omega)
              refine qX.scr hX hk ?_
              have hbst := may_best hbe g3 g4 g5
              unfold S_may
              rw [w_fb2_i hx0 hx3, if_pos hfb, hml]
              rw [er, (hxx.2.2.2.1 r e he).2.1]
              show ((.long (w_bst true ml).2, J, K) : SR) = _
              rw [hbst]
            · skip
              refine pv_astore_5 (pc := 53) dX11_may_53 (by decide) rfl ?_
              refine pv_aload_5 (pc := 55) dX11_may_55 ?_
              refine pv_ifnonnull (pc := 57) (tgt := 77) dX11_may_57 (by decide) ?_
              refine pv_iload_3 (pc := 77) dX11_may_77 ?_
              refine pv_iconst (pc := 78) (v := 2) dX11_may_78 (by decide) ?_
              refine pv_icmp_ge (pc := 79) (tgt := 91) dX11_may_79 (by decide) (fun _ => ?_) (fun q => absurd q (by decide))
              refine pv_aload_5 (pc := 91) dX11_may_91 ?_
              refine pv_iconst (pc := 93) (v := 1) dX11_may_93 (by decide) ?_
              refine pv_callVq (pc := 94) dX11_may_94 mgX2_outermost lv_X11_288_2 hcr.1 hcr.2.1 (by omega) (c_X2_outermost (g := false) hcr hxx (Or.inr ⟨rfl, rfl⟩) g4 hlen (by omega)) rfl rfl (by decide) (fun v t I L Rf hq => ?_)
              obtain ⟨⟨r, e, rfl, he, hbe⟩, rfl, rfl, rfl, rfl⟩ := hq
              refine pv_istore_6 (pc := 97) dX11_may_97 (by decide) rfl ?_
              refine pv_iload_3 (pc := 99) dX11_may_99 ?_
              refine pv_if_eq (pc := 100) (tgt := 108) dX11_may_100 (by decide) (fun q => absurd q (by decide)) (fun _ => ?_)
              refine pv_iload_3 (pc := 103) dX11_may_103 ?_
              refine pv_iconst (pc := 104) (v := 2) dX11_may_104 (by decide) ?_
              refine pv_icmp_ne (pc := 105) (tgt := 119) dX11_may_105 (by decide) (fun q => absurd q (by decide)) (fun _ => ?_)
              refine pv_aload_5 (pc := 108) dX11_may_108 ?_
              refine pv_getR (pc := 110) dX11_may_110 fg_X11_291_2 rfl hcr.1 hcr.2.1 hcr.2.2.2.2.2.2.1 ?_
              refine pv_iload_6 (pc := 113) dX11_may_113 ?_
              refine pv_laloadj (pc := 115) dX11_may_115 (by have := hcr.1; omega) hcr.2.2.1 rfl (i_in (k := r) (by have := (List.getElem?_eq_some_iff.mp he).1; have := hxx.2.1; omega) (by decide)) ?_
              refine pv_goto (pc := 116) (tgt := 127) dX11_may_116 (by decide) ?_
              refine pv_lret (pc := 127) dX11_may_127 rfl ?_
              have er := i_nat (k := r) (by have := (List.getElem?_eq_some_iff.mp he).1; have := hxx.2.1; omega)
              refine qX.scr hX hk ?_
              have hbst := may_best hbe g3 g4 g5
              unfold S_may
              rw [w_fb2_i hx0 hx3, if_pos hfb, hml]
              rw [er, (hxx.2.2.2.1 r e he).1]
              show ((.long (w_bst false ml).1, J, K) : SR) = _
              rw [hbst]
            · skip
              refine pv_astore_5 (pc := 53) dX11_may_53 (by decide) rfl ?_
              refine pv_aload_5 (pc := 55) dX11_may_55 ?_
              refine pv_ifnonnull (pc := 57) (tgt := 77) dX11_may_57 (by decide) ?_
              refine pv_iload_3 (pc := 77) dX11_may_77 ?_
              refine pv_iconst (pc := 78) (v := 2) dX11_may_78 (by decide) ?_
              refine pv_icmp_ge (pc := 79) (tgt := 91) dX11_may_79 (by decide) (fun _ => ?_) (fun q => absurd q (by decide))
              refine pv_aload_5 (pc := 91) dX11_may_91 ?_
              refine pv_iconst (pc := 93) (v := 1) dX11_may_93 (by decide) ?_
              refine pv_callVq (pc := 94) dX11_may_94 mgX2_outermost lv_X11_288_2 hcr.1 hcr.2.1 (by omega) (c_X2_outermost (g := false) hcr hxx (Or.inr ⟨rfl, rfl⟩) g4 hlen (by omega)) rfl rfl (by decide) (fun v t I L Rf hq => ?_)
              obtain ⟨⟨r, e, rfl, he, hbe⟩, rfl, rfl, rfl, rfl⟩ := hq
              refine pv_istore_6 (pc := 97) dX11_may_97 (by decide) rfl ?_
              refine pv_iload_3 (pc := 99) dX11_may_99 ?_
              refine pv_if_eq (pc := 100) (tgt := 108) dX11_may_100 (by decide) (fun q => absurd q (by decide)) (fun _ => ?_)
              refine pv_iload_3 (pc := 103) dX11_may_103 ?_
              refine pv_iconst (pc := 104) (v := 2) dX11_may_104 (by decide) ?_
              refine pv_icmp_ne (pc := 105) (tgt := 119) dX11_may_105 (by decide) (fun _ => ?_) (fun q => absurd q (by decide))
              refine pv_aload_5 (pc := 119) dX11_may_119 ?_
              refine pv_getR (pc := 121) dX11_may_121 fg_X11_294_2 rfl hcr.1 hcr.2.1 hcr.2.2.2.2.2.2.2.1 ?_
              refine pv_iload_6 (pc := 124) dX11_may_124 ?_
              refine pv_laloadj (pc := 126) dX11_may_126 (by have := hcr.1; omega) hcr.2.2.2.1 rfl (i_in (k := r) (by have := (List.getElem?_eq_some_iff.mp he).1; have := hxx.2.1; omega) (by decide)) ?_
              refine pv_lret (pc := 127) dX11_may_127 rfl ?_
              have er := i_nat (k := r) (by have := (List.getElem?_eq_some_iff.mp he).1; have := hxx.2.1; omega)
              refine qX.scr hX hk ?_
              have hbst := may_best hbe g3 g4 g5
              unfold S_may
              rw [w_fb2_i hx0 hx3, if_pos hfb, hml]
              rw [er, (hxx.2.2.2.1 r e he).2.1]
              show ((.long (w_bst false ml).2, J, K) : SR) = _
              rw [hbst]
        · skip
          refine pv_aload_0 (pc := 0) dX11_may_0 ?_
          refine pv_iload_1 (pc := 1) dX11_may_1 ?_
          refine pv_iload_2 (pc := 2) dX11_may_2 ?_
          refine pv_callV1 (pc := 3) dX11_may_3 mgX11_noPart lv_X11_203_11 (by decide) (sx_16 hT) (by omega) (x_np0 hW hX hb (by omega)) rfl rfl (by decide) ?_
          refine pv_istore_4 (pc := 6) dX11_may_6 (by decide) rfl ?_
          refine pv_iload_4 (pc := 8) dX11_may_8 ?_
          refine pv_if_ne (pc := 10) (tgt := 25) dX11_may_10 (by decide) (fun q => absurd q (by decide)) (fun _ => ?_)
          refine pv_iload_3 (pc := 13) dX11_may_13 ?_
          refine pv_if_lt (pc := 14) (tgt := 22) dX11_may_14 (by decide) (fun h14 => absurd h14 hx0) (fun h14 => ?_)
          refine pv_iload_3 (pc := 17) dX11_may_17 ?_
          refine pv_iconst (pc := 18) (v := 3) dX11_may_18 (by decide) ?_
          refine pv_icmp_le (pc := 19) (tgt := 25) dX11_may_19 (by decide) (fun h19 => ?_) (fun h19 => absurd h19 hx3)
          refine pv_iload_4 (pc := 25) dX11_may_25 ?_
          refine pv_if_ne (pc := 27) (tgt := 38) dX11_may_27 (by decide) (fun q => absurd q (by decide)) (fun _ => ?_)
          refine pv_aload_0 (pc := 30) dX11_may_30 ?_
          refine pv_iload_1 (pc := 31) dX11_may_31 ?_
          refine pv_iload_2 (pc := 32) dX11_may_32 ?_
          refine pv_callV1 (pc := 33) dX11_may_33 mgX11_noForgotten lv_X11_278_11 (by decide) (sx_16 hT) (by omega) (c_nf_at (C := K (1 + s.toNatClampNeg)) (v := 6) hT hR hs8 n0 hz hz2 hcell hin hnf (by omega)) rfl rfl (by decide) ?_
          refine pv_istore_4 (pc := 36) dX11_may_36 (by decide) rfl ?_
          refine pv_iload_4 (pc := 38) dX11_may_38 ?_
          refine pv_if_ne (pc := 40) (tgt := 52) dX11_may_40 (by decide) (fun _ => ?_) (fun q => absurd q (by decide))
          refine pv_null (pc := 52) dX11_may_52 ?_
          refine pv_astoreN_5 (pc := 53) dX11_may_53 (by decide) rfl ?_
          refine pv_aloadN_5 (pc := 55) dX11_may_55 ?_
          refine pv_ifnonnullN (pc := 57) dX11_may_57 ?_
          refine pv_aload_0 (pc := 60) dX11_may_60 ?_
          refine pv_iload_4 (pc := 61) dX11_may_61 ?_
          refine pv_if_ne (pc := 63) (tgt := 71) dX11_may_63 (by decide) (fun _ => ?_) (fun q => absurd q (by decide))
          refine pv_iload_4 (pc := 71) dX11_may_71 ?_
          refine pv_callV1 (pc := 73) dX11_may_73 mgX11_refuseFar lv_X11_183_11 (by decide) (sx_16 hT) (by omega) (c_X11_refuseFar (k := 6) hT hR (by decide) (by unfold vp_in; decide) (by omega)) rfl rfl (by decide) ?_
          refine pv_lret (pc := 76) dX11_may_76 rfl ?_
          have e : w_fb2 J K s n x = -6 := by rw [w_fb2_i hx0 hx3, w_fbar_nf hb, hnf, if_neg (by decide)]
          refine qX.ref hX (by decide : 6 < 8) ?_
          unfold S_may
          rw [e, if_neg (by decide)]; rfl
        · skip
          refine pv_aload_0 (pc := 0) dX11_may_0 ?_
          refine pv_iload_1 (pc := 1) dX11_may_1 ?_
          refine pv_iload_2 (pc := 2) dX11_may_2 ?_
          refine pv_callV1 (pc := 3) dX11_may_3 mgX11_noPart lv_X11_203_11 (by decide) (sx_16 hT) (by omega) (x_np0 hW hX hb (by omega)) rfl rfl (by decide) ?_
          refine pv_istore_4 (pc := 6) dX11_may_6 (by decide) rfl ?_
          refine pv_iload_4 (pc := 8) dX11_may_8 ?_
          refine pv_if_ne (pc := 10) (tgt := 25) dX11_may_10 (by decide) (fun q => absurd q (by decide)) (fun _ => ?_)
          refine pv_iload_3 (pc := 13) dX11_may_13 ?_
          refine pv_if_lt (pc := 14) (tgt := 22) dX11_may_14 (by decide) (fun h14 => absurd h14 hx0) (fun h14 => ?_)
          refine pv_iload_3 (pc := 17) dX11_may_17 ?_
          refine pv_iconst (pc := 18) (v := 3) dX11_may_18 (by decide) ?_
          refine pv_icmp_le (pc := 19) (tgt := 25) dX11_may_19 (by decide) (fun h19 => ?_) (fun h19 => absurd h19 hx3)
          refine pv_iload_4 (pc := 25) dX11_may_25 ?_
          refine pv_if_ne (pc := 27) (tgt := 38) dX11_may_27 (by decide) (fun q => absurd q (by decide)) (fun _ => ?_)
          refine pv_aload_0 (pc := 30) dX11_may_30 ?_
          refine pv_iload_1 (pc := 31) dX11_may_31 ?_
          refine pv_iload_2 (pc := 32) dX11_may_32 ?_
          refine pv_callV1 (pc := 33) dX11_may_33 mgX11_noForgotten lv_X11_278_11 (by decide) (sx_16 hT) (by omega) (c_nf_at (C := K (1 + s.toNatClampNeg)) (v := 7) hT hR hs8 n0 hz hz2 hcell hin hnf (by omega)) rfl rfl (by decide) ?_
          refine pv_istore_4 (pc := 36) dX11_may_36 (by decide) rfl ?_
          refine pv_iload_4 (pc := 38) dX11_may_38 ?_
          refine pv_if_ne (pc := 40) (tgt := 52) dX11_may_40 (by decide) (fun _ => ?_) (fun q => absurd q (by decide))
          refine pv_null (pc := 52) dX11_may_52 ?_
          refine pv_astoreN_5 (pc := 53) dX11_may_53 (by decide) rfl ?_
          refine pv_aloadN_5 (pc := 55) dX11_may_55 ?_
          refine pv_ifnonnullN (pc := 57) dX11_may_57 ?_
          refine pv_aload_0 (pc := 60) dX11_may_60 ?_
          refine pv_iload_4 (pc := 61) dX11_may_61 ?_
          refine pv_if_ne (pc := 63) (tgt := 71) dX11_may_63 (by decide) (fun _ => ?_) (fun q => absurd q (by decide))
          refine pv_iload_4 (pc := 71) dX11_may_71 ?_
          refine pv_callV1 (pc := 73) dX11_may_73 mgX11_refuseFar lv_X11_183_11 (by decide) (sx_16 hT) (by omega) (c_X11_refuseFar (k := 7) hT hR (by decide) (by unfold vp_in; decide) (by omega)) rfl rfl (by decide) ?_
          refine pv_lret (pc := 76) dX11_may_76 rfl ?_
          have e : w_fb2 J K s n x = -7 := by rw [w_fb2_i hx0 hx3, w_fbar_nf hb, hnf, if_neg (by decide)]
          refine qX.ref hX (by decide : 7 < 8) ?_
          unfold S_may
          rw [e, if_neg (by decide)]; rfl
  · have hnb : ¬ -(w_bars J s n) = 0 := fun q => hb (w_bars_z q)
    refine pv_aload_0 (pc := 0) dX11_may_0 ?_
    refine pv_iload_1 (pc := 1) dX11_may_1 ?_
    refine pv_iload_2 (pc := 2) dX11_may_2 ?_
    refine pv_callV1 (pc := 3) dX11_may_3 mgX11_noPart lv_X11_203_11 (by decide) (sx_16 hT) (by omega) (c_X11_noPart hW hX (by omega)) rfl rfl (by decide) ?_
    refine pv_istore_4 (pc := 6) dX11_may_6 (by decide) rfl ?_
    refine pv_iload_4 (pc := 8) dX11_may_8 ?_
    refine pv_if_ne (pc := 10) (tgt := 25) dX11_may_10 (by decide) (fun h10 => ?_) (fun h10 => absurd h10 hnb)
    refine pv_iload_4 (pc := 25) dX11_may_25 ?_
    refine pv_if_ne (pc := 27) (tgt := 38) dX11_may_27 (by decide) (fun h27 => ?_) (fun h27 => absurd h27 hnb)
    refine pv_iload_4 (pc := 38) dX11_may_38 ?_
    refine pv_if_ne (pc := 40) (tgt := 52) dX11_may_40 (by decide) (fun h40 => ?_) (fun h40 => absurd h40 hnb)
    refine pv_null (pc := 52) dX11_may_52 ?_
    refine pv_astoreN_5 (pc := 53) dX11_may_53 (by decide) rfl ?_
    refine pv_aloadN_5 (pc := 55) dX11_may_55 ?_
    refine pv_ifnonnullN (pc := 57) dX11_may_57 ?_
    refine pv_aload_0 (pc := 60) dX11_may_60 ?_
    refine pv_iload_4 (pc := 61) dX11_may_61 ?_
    refine pv_if_ne (pc := 63) (tgt := 71) dX11_may_63 (by decide) (fun h63 => ?_) (fun h63 => absurd h63 hnb)
    refine pv_iload_4 (pc := 71) dX11_may_71 ?_
    refine pv_callV1 (pc := 73) dX11_may_73 mgX11_refuseFar lv_X11_183_11 (by decide) (sx_16 hT) (by omega) (c_X11_refuseFar (k := (-(w_bars J s n)).toNatClampNeg) hT hR rfl (w_bars_in J s n) (by omega)) rfl rfl (by decide) ?_
    refine pv_lret (pc := 76) dX11_may_76 rfl ?_
    refine qX.ref hX (w_bars_n s n) ?_
    unfold S_may
    rw [w_fb2_b hb, if_neg hb, x_neg2]

