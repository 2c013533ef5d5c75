/-! constructors: the class's own -/
def rf_A : List (Nat × Nat × Nat) := [(16, 0, 17), (16, 1, 18), (16, 2, 19), (16, 3, 20), (16, 4, 21), (16, 5, 23), (16, 6, 25), (16, 7, 27), (16, 8, 29), (16, 9, 35), (16, 10, 40), (21, 0, 22), (23, 0, 24), (25, 0, 26), (27, 0, 28), (29, 0, 30), (29, 1, 31), (29, 2, 32), (29, 3, 33), (29, 4, 34), (35, 0, 36), (35, 1, 37), (35, 2, 38), (35, 3, 39), (40, 0, 41), (40, 1, 42), (40, 2, 43), (40, 3, 44), (45, 0, 46), (17, 0, 45), (47, 0, 48), (17, 1, 47), (49, 0, 50), (17, 2, 49), (51, 0, 52), (17, 3, 51), (53, 0, 54), (17, 4, 53), (55, 0, 56), (17, 5, 55), (57, 0, 58), (17, 6, 57), (59, 0, 60), (17, 7, 59)]
def rf_B : List (Nat × Nat × Nat) := [(61, 7, 62), (61, 8, 63), (61, 9, 64), (61, 10, 65), (61, 11, 66), (61, 12, 67), (61, 13, 68), (61, 14, 69), (61, 15, 70), (61, 16, 71), (61, 17, 72), (61, 20, 73), (61, 21, 74), (61, 22, 75), (61, 28, 76), (61, 29, 77), (61, 30, 78), (61, 31, 79), (61, 34, 80), (61, 37, 81), (61, 38, 82), (61, 49, 83), (61, 50, 84), (61, 52, 85), (61, 53, 86), (61, 54, 87), (61, 55, 88), (61, 58, 89)]
theorem rf_AB : pv_rfl = rf_A ++ rf_B := rfl
/-- what a new object of the class shows -/
def x_at0 (I : pv_I) (L : pv_L) (Rf : pv_R) : Prop := (∀ j, j < 8 → I 19 j = 0) ∧ (I 16 12 = -1 ∧ I 16 11 = 0 ∧ I 20 0 = 0) ∧ (L 21 1 = 0 ∧ L 21 2 = 1 ∧ I 21 3 = 0 ∧ I 21 4 = 0 ∧ I 21 5 = 0 ∧ I 21 6 = 1) ∧ (I 22 0 = 0 ∧ I 22 1 = 1 ∧ I 22 2 = 2 ∧ I 22 3 = 3) ∧
  ((I 45 1 = -1 ∧ I 45 2 = 0 ∧ I 45 3 = -1) ∧ (I 47 1 = -1 ∧ I 47 2 = 0 ∧ I 47 3 = -1) ∧ (I 49 1 = -1 ∧ I 49 2 = 0 ∧ I 49 3 = -1) ∧ (I 51 1 = -1 ∧ I 51 2 = 0 ∧ I 51 3 = -1) ∧ (I 53 1 = -1 ∧ I 53 2 = 0 ∧ I 53 3 = -1) ∧ (I 55 1 = -1 ∧ I 55 2 = 0 ∧ I 55 3 = -1) ∧ (I 57 1 = -1 ∧ I 57 2 = 0 ∧ I 57 3 = -1) ∧ (I 59 1 = -1 ∧ I 59 2 = 0 ∧ I 59 3 = -1)) ∧ ∀ q ∈ rf_A, Rf q.1 q.2.1 = some q.2.2
set_option maxRecDepth 100000 in
set_option maxHeartbeats 4000000 in
theorem c_ini_X11 {G : pv_G} {d : Nat} {I : pv_I} {L : pv_L} {Rf : pv_R} (hI0 : ∀ j, I 16 j = 0) (hd : 4 ≤ d) : pv_Mt G mX11_init d 44 5518 [.ref 16] (pv_tl G 1) I L Rf (fun v t1 I1 L1 R1 => v = none ∧ t1 = pv_tl G 45 ∧ x_at0 I1 L1 R1) := by
  refine pv_mt mgX11_init.2.2.2.2.2 [.ref 16, .retAddr 0] rfl (Nat.le_of_ble_eq_true rfl) ?_
  refine pv_aload_0 (pc := 0) dX11_init_0 ?_
  refine pv_objInit (pc := 1) dX11_init_1 ol_X11_3 oi_1 oi_2 (by omega) (by decide) ?_
  refine pv_aload_0 (pc := 4) dX11_init_4 ?_
  refine pv_bipush (pc := 5) (v := 8) dX11_init_5 (by decide) ?_
  refine pa_newQ (pc := 7) (k := 1) (A := 17) (N := 8) (bc := 43) (bs := 5510) dX11_init_7 (Or.inl rfl) cl_X11_9 (by decide) (by decide) (by decide) rfl rfl ?_
  refine pv_putR (pc := 10) (M := mX11_init) (idx := 11) dX11_init_10 fl_X11_11_11 (fun _ => rfl) rfl (by decide) (tl_at (k := 2) (i := 0) rfl (by decide) rfl) (o := some _) rfl ?_
  refine pv_aload_0 (pc := 13) dX11_init_13 ?_
  refine pv_bipush (pc := 14) (v := 8) dX11_init_14 (by decide) ?_
  refine pa_newQ (pc := 16) (k := 2) (A := 18) (N := 8) (bc := 42) (bs := 5502) dX11_init_16 (Or.inr rfl) cl_X11_15 (by decide) (by decide) (by decide) rfl rfl ?_
  refine pv_putR (pc := 19) (M := mX11_init) (idx := 17) dX11_init_19 fl_X11_17_11 (fun _ => rfl) rfl (by decide) (tl_at (k := 3) (i := 0) rfl (by decide) rfl) (o := some _) rfl ?_
  refine pv_aload_0 (pc := 22) dX11_init_22 ?_
  refine pv_bipush (pc := 23) (v := 8) dX11_init_23 (by decide) ?_
  refine pa_newI (pc := 25) (k := 3) (A := 19) (N := 8) (bc := 41) (bs := 5494) dX11_init_25 ac_int (by decide) (by decide) (by decide) rfl rfl ?_
  refine pv_putR (pc := 27) (M := mX11_init) (idx := 21) dX11_init_27 fl_X11_21_11 (fun _ => rfl) rfl (by decide) (tl_at (k := 4) (i := 0) rfl (by decide) rfl) (o := some _) rfl ?_
  refine pv_aload_0 (pc := 30) dX11_init_30 ?_
  refine pv_bipush (pc := 31) (v := 21) dX11_init_31 (by decide) ?_
  refine pa_newI (pc := 33) (k := 4) (A := 20) (N := 21) (bc := 40) (bs := 5473) dX11_init_33 ac_int (by decide) (by decide) (by decide) rfl rfl ?_
  refine pv_putR (pc := 35) (M := mX11_init) (idx := 25) dX11_init_35 fl_X11_25_11 (fun _ => rfl) rfl (by decide) (tl_at (k := 5) (i := 0) rfl (by decide) rfl) (o := some _) rfl ?_
  refine pv_aload_0 (pc := 38) dX11_init_38 ?_
  refine pa_new (pc := 39) (k := 5) (A := 21) (bc := 39) (bs := 5466) (r := (RX4, TX4, 7)) dX11_init_39 rfl cl_X11_28 in_X4 ii_X4 (by decide) rfl rfl ?_
  refine pv_dup (pc := 42) dX11_init_42 rfl ?_
  refine pv_callI (bc := 38) (bs := 5462) (mc1 := 1) (ms1 := 4) (d1 := d - 1) (pc := 43) dX11_init_43 mgX4_init li_X11_30 (by omega) (c_ini_X4_21 (by omega)) rfl rfl (Nat.le_of_ble_eq_true rfl) (fun v t I L Rf hq => ?_)
  obtain ⟨rfl, rfl, rfl, rfl, rfl⟩ := hq
  refine pv_putR (pc := 46) (M := mX11_init) (idx := 31) dX11_init_46 fl_X11_31_11 (fun _ => rfl) rfl (by decide) (tl_at (k := 7) (i := 0) rfl (by decide) rfl) (o := some _) rfl ?_
  refine pv_aload_0 (pc := 49) dX11_init_49 ?_
  refine pa_new (pc := 50) (k := 7) (A := 23) (bc := 37) (bs := 5455) (r := (RX4, TX4, 7)) dX11_init_50 rfl cl_X11_28 in_X4 ii_X4 (by decide) rfl rfl ?_
  refine pv_dup (pc := 53) dX11_init_53 rfl ?_
  refine pv_callI (bc := 36) (bs := 5451) (mc1 := 1) (ms1 := 4) (d1 := d - 1) (pc := 54) dX11_init_54 mgX4_init li_X11_30 (by omega) (c_ini_X4_23 (by omega)) rfl rfl (Nat.le_of_ble_eq_true rfl) (fun v t I L Rf hq => ?_)
  obtain ⟨rfl, rfl, rfl, rfl, rfl⟩ := hq
  refine pv_putR (pc := 57) (M := mX11_init) (idx := 35) dX11_init_57 fl_X11_35_11 (fun _ => rfl) rfl (by decide) (tl_at (k := 9) (i := 0) rfl (by decide) rfl) (o := some _) rfl ?_
  refine pv_aload_0 (pc := 60) dX11_init_60 ?_
  refine pa_new (pc := 61) (k := 9) (A := 25) (bc := 35) (bs := 5444) (r := (RX4, TX4, 7)) dX11_init_61 rfl cl_X11_28 in_X4 ii_X4 (by decide) rfl rfl ?_
  refine pv_dup (pc := 64) dX11_init_64 rfl ?_
  refine pv_callI (bc := 34) (bs := 5440) (mc1 := 1) (ms1 := 4) (d1 := d - 1) (pc := 65) dX11_init_65 mgX4_init li_X11_30 (by omega) (c_ini_X4_25 (by omega)) rfl rfl (Nat.le_of_ble_eq_true rfl) (fun v t I L Rf hq => ?_)
  obtain ⟨rfl, rfl, rfl, rfl, rfl⟩ := hq
  refine pv_putR (pc := 68) (M := mX11_init) (idx := 38) dX11_init_68 fl_X11_38_11 (fun _ => rfl) rfl (by decide) (tl_at (k := 11) (i := 0) rfl (by decide) rfl) (o := some _) rfl ?_
  refine pv_aload_0 (pc := 71) dX11_init_71 ?_
  refine pa_new (pc := 72) (k := 11) (A := 27) (bc := 33) (bs := 5433) (r := (RX4, TX4, 7)) dX11_init_72 rfl cl_X11_28 in_X4 ii_X4 (by decide) rfl rfl ?_
  refine pv_dup (pc := 75) dX11_init_75 rfl ?_
  refine pv_callI (bc := 32) (bs := 5429) (mc1 := 1) (ms1 := 4) (d1 := d - 1) (pc := 76) dX11_init_76 mgX4_init li_X11_30 (by omega) (c_ini_X4_27 (by omega)) rfl rfl (Nat.le_of_ble_eq_true rfl) (fun v t I L Rf hq => ?_)
  obtain ⟨rfl, rfl, rfl, rfl, rfl⟩ := hq
  refine pv_putR (pc := 79) (M := mX11_init) (idx := 41) dX11_init_79 fl_X11_41_11 (fun _ => rfl) rfl (by decide) (tl_at (k := 13) (i := 0) rfl (by decide) rfl) (o := some _) rfl ?_
  refine pv_aload_0 (pc := 82) dX11_init_82 ?_
  refine pa_new (pc := 83) (k := 13) (A := 29) (bc := 31) (bs := 5417) (r := (RX7, TX7, 12)) dX11_init_83 rfl cl_X11_44 in_X7 ii_X7 (by decide) rfl rfl ?_
  refine pv_dup (pc := 86) dX11_init_86 rfl ?_
  refine pv_callI (bc := 26) (bs := 5316) (mc1 := 5) (ms1 := 101) (d1 := d - 1) (pc := 87) dX11_init_87 mgX7_init li_X11_46 (by omega) (c_ini_X7_29 (by omega)) rfl rfl (Nat.le_of_ble_eq_true rfl) (fun v t I L Rf hq => ?_)
  obtain ⟨rfl, rfl, rfl, rfl, rfl⟩ := hq
  refine pv_putR (pc := 90) (M := mX11_init) (idx := 47) dX11_init_90 fl_X11_47_11 (fun _ => rfl) rfl (by decide) (tl_at (k := 19) (i := 0) rfl (by decide) rfl) (o := some _) rfl ?_
  refine pv_aload_0 (pc := 93) dX11_init_93 ?_
  refine pa_new (pc := 94) (k := 19) (A := 35) (bc := 25) (bs := 5310) (r := (RX2, TX2, 6)) dX11_init_94 rfl cl_X11_51 in_X2 ii_X2 (by decide) rfl rfl ?_
  refine pv_dup (pc := 97) dX11_init_97 rfl ?_
  refine pv_callI (bc := 21) (bs := 3326) (mc1 := 4) (ms1 := 1984) (d1 := d - 1) (pc := 98) dX11_init_98 mgX2_init li_X11_53 (by omega) (c_ini_X2_35 (by omega)) rfl rfl (Nat.le_of_ble_eq_true rfl) (fun v t I L Rf hq => ?_)
  obtain ⟨rfl, rfl, rfl, rfl, rfl⟩ := hq
  refine pv_putR (pc := 101) (M := mX11_init) (idx := 54) dX11_init_101 fl_X11_54_11 (fun _ => rfl) rfl (by decide) (tl_at (k := 24) (i := 0) rfl (by decide) rfl) (o := some _) rfl ?_
  refine pv_aload_0 (pc := 104) dX11_init_104 ?_
  refine pa_new (pc := 105) (k := 24) (A := 40) (bc := 20) (bs := 3320) (r := (RX2, TX2, 6)) dX11_init_105 rfl cl_X11_51 in_X2 ii_X2 (by decide) rfl rfl ?_
  refine pv_dup (pc := 108) dX11_init_108 rfl ?_
  refine pv_callI (bc := 16) (bs := 1336) (mc1 := 4) (ms1 := 1984) (d1 := d - 1) (pc := 109) dX11_init_109 mgX2_init li_X11_53 (by omega) (c_ini_X2_40 (by omega)) rfl rfl (Nat.le_of_ble_eq_true rfl) (fun v t I L Rf hq => ?_)
  obtain ⟨rfl, rfl, rfl, rfl, rfl⟩ := hq
  refine pv_putR (pc := 112) (M := mX11_init) (idx := 58) dX11_init_112 fl_X11_58_11 (fun _ => rfl) rfl (by decide) (tl_at (k := 29) (i := 0) rfl (by decide) rfl) (o := some _) rfl ?_
  refine pv_aload_0 (pc := 115) dX11_init_115 ?_
  refine pv_iconst (pc := 116) (v := (-1)) dX11_init_116 (by decide) ?_
  refine pv_putI (pc := 117) dX11_init_117 fl_X11_61_11 (fun q => by cases q) ⟨rfl, rfl, rfl⟩ (by decide) (tl_at (k := 29) (i := 0) rfl (by decide) rfl) ?_
  refine pv_iconst (pc := 120) (v := 0) dX11_init_120 (by decide) ?_
  refine pv_istore_1 (pc := 121) dX11_init_121 (by decide) rfl ?_
  refine pv_iload_1 (pc := 122) dX11_init_122 ?_
  refine pv_bipush (pc := 123) (v := 8) dX11_init_123 (by decide) ?_
  refine pv_icmp_ge (pc := 125) (tgt := 147) dX11_init_125 (by decide) (fun q => absurd q (by decide)) (fun _ => ?_)
  refine pv_aload_0 (pc := 128) dX11_init_128 ?_
  refine pv_getR (pc := 129) dX11_init_129 fg_X11_11_11 rfl (by decide) (tl_at (k := 29) (i := 0) rfl (by decide) rfl) rfl ?_
  refine pv_iload_1 (pc := 132) dX11_init_132 ?_
  refine pa_new (pc := 133) (k := 29) (A := 45) (bc := 15) (bs := 1329) (r := (RX8, TX8, 7)) dX11_init_133 rfl cl_X11_9 in_X8 ii_X8 (by decide) rfl rfl ?_
  refine pv_dup (pc := 136) dX11_init_136 rfl ?_
  refine pv_callI (bc := 14) (bs := 1169) (mc1 := 1) (ms1 := 160) (d1 := d - 1) (pc := 137) dX11_init_137 mgX8_init li_X11_65 (by omega) (c_ini_X8_45 (by omega)) rfl rfl (Nat.le_of_ble_eq_true rfl) (fun v t I L Rf hq => ?_)
  obtain ⟨rfl, rfl, rfl, rfl, rfl⟩ := hq
  refine pa_aastore (pc := 140) (j := 0) (r := (RX8, TX8, 7)) dX11_init_140 (by decide) (tl_at (k := 31) (i := 1) rfl (by decide) rfl) (by decide) (tl_at (k := 31) (i := 29) rfl (by decide) rfl) rfl (Or.inl rfl) (by decide) (by unfold vp_in; decide) ?_
  refine pv_iinc_1 (pc := 141) (v := 1) dX11_init_141 (by decide) (by decide) rfl ?_
  refine pv_goto (pc := 144) (tgt := 122) dX11_init_144 (by decide) ?_
  refine pv_iload_1 (pc := 122) dX11_init_122 ?_
  refine pv_bipush (pc := 123) (v := 8) dX11_init_123 (by decide) ?_
  refine pv_icmp_ge (pc := 125) (tgt := 147) dX11_init_125 (by decide) (fun q => absurd q (by decide)) (fun _ => ?_)
  refine pv_aload_0 (pc := 128) dX11_init_128 ?_
  refine pv_getR (pc := 129) dX11_init_129 fg_X11_11_11 rfl (by decide) (tl_at (k := 31) (i := 0) rfl (by decide) rfl) rfl ?_
  refine pv_iload_1 (pc := 132) dX11_init_132 ?_
  refine pa_new (pc := 133) (k := 31) (A := 47) (bc := 13) (bs := 1162) (r := (RX8, TX8, 7)) dX11_init_133 rfl cl_X11_9 in_X8 ii_X8 (by decide) rfl rfl ?_
  refine pv_dup (pc := 136) dX11_init_136 rfl ?_
  refine pv_callI (bc := 12) (bs := 1002) (mc1 := 1) (ms1 := 160) (d1 := d - 1) (pc := 137) dX11_init_137 mgX8_init li_X11_65 (by omega) (c_ini_X8_47 (by omega)) rfl rfl (Nat.le_of_ble_eq_true rfl) (fun v t I L Rf hq => ?_)
  obtain ⟨rfl, rfl, rfl, rfl, rfl⟩ := hq
  refine pa_aastore (pc := 140) (j := 1) (r := (RX8, TX8, 7)) dX11_init_140 (by decide) (tl_at (k := 33) (i := 1) rfl (by decide) rfl) (by decide) (tl_at (k := 33) (i := 31) rfl (by decide) rfl) rfl (Or.inl rfl) (by decide) (by unfold vp_in; decide) ?_
  refine pv_iinc_1 (pc := 141) (v := 2) dX11_init_141 (by decide) (by decide) rfl ?_
  refine pv_goto (pc := 144) (tgt := 122) dX11_init_144 (by decide) ?_
  refine pv_iload_1 (pc := 122) dX11_init_122 ?_
  refine pv_bipush (pc := 123) (v := 8) dX11_init_123 (by decide) ?_
  refine pv_icmp_ge (pc := 125) (tgt := 147) dX11_init_125 (by decide) (fun q => absurd q (by decide)) (fun _ => ?_)
  refine pv_aload_0 (pc := 128) dX11_init_128 ?_
  refine pv_getR (pc := 129) dX11_init_129 fg_X11_11_11 rfl (by decide) (tl_at (k := 33) (i := 0) rfl (by decide) rfl) rfl ?_
  refine pv_iload_1 (pc := 132) dX11_init_132 ?_
  refine pa_new (pc := 133) (k := 33) (A := 49) (bc := 11) (bs := 995) (r := (RX8, TX8, 7)) dX11_init_133 rfl cl_X11_9 in_X8 ii_X8 (by decide) rfl rfl ?_
  refine pv_dup (pc := 136) dX11_init_136 rfl ?_
  refine pv_callI (bc := 10) (bs := 835) (mc1 := 1) (ms1 := 160) (d1 := d - 1) (pc := 137) dX11_init_137 mgX8_init li_X11_65 (by omega) (c_ini_X8_49 (by omega)) rfl rfl (Nat.le_of_ble_eq_true rfl) (fun v t I L Rf hq => ?_)
  obtain ⟨rfl, rfl, rfl, rfl, rfl⟩ := hq
  refine pa_aastore (pc := 140) (j := 2) (r := (RX8, TX8, 7)) dX11_init_140 (by decide) (tl_at (k := 35) (i := 1) rfl (by decide) rfl) (by decide) (tl_at (k := 35) (i := 33) rfl (by decide) rfl) rfl (Or.inl rfl) (by decide) (by unfold vp_in; decide) ?_
  refine pv_iinc_1 (pc := 141) (v := 3) dX11_init_141 (by decide) (by decide) rfl ?_
  refine pv_goto (pc := 144) (tgt := 122) dX11_init_144 (by decide) ?_
  refine pv_iload_1 (pc := 122) dX11_init_122 ?_
  refine pv_bipush (pc := 123) (v := 8) dX11_init_123 (by decide) ?_
  refine pv_icmp_ge (pc := 125) (tgt := 147) dX11_init_125 (by decide) (fun q => absurd q (by decide)) (fun _ => ?_)
  refine pv_aload_0 (pc := 128) dX11_init_128 ?_
  refine pv_getR (pc := 129) dX11_init_129 fg_X11_11_11 rfl (by decide) (tl_at (k := 35) (i := 0) rfl (by decide) rfl) rfl ?_
  refine pv_iload_1 (pc := 132) dX11_init_132 ?_
  refine pa_new (pc := 133) (k := 35) (A := 51) (bc := 9) (bs := 828) (r := (RX8, TX8, 7)) dX11_init_133 rfl cl_X11_9 in_X8 ii_X8 (by decide) rfl rfl ?_
  refine pv_dup (pc := 136) dX11_init_136 rfl ?_
  refine pv_callI (bc := 8) (bs := 668) (mc1 := 1) (ms1 := 160) (d1 := d - 1) (pc := 137) dX11_init_137 mgX8_init li_X11_65 (by omega) (c_ini_X8_51 (by omega)) rfl rfl (Nat.le_of_ble_eq_true rfl) (fun v t I L Rf hq => ?_)
  obtain ⟨rfl, rfl, rfl, rfl, rfl⟩ := hq
  refine pa_aastore (pc := 140) (j := 3) (r := (RX8, TX8, 7)) dX11_init_140 (by decide) (tl_at (k := 37) (i := 1) rfl (by decide) rfl) (by decide) (tl_at (k := 37) (i := 35) rfl (by decide) rfl) rfl (Or.inl rfl) (by decide) (by unfold vp_in; decide) ?_
  refine pv_iinc_1 (pc := 141) (v := 4) dX11_init_141 (by decide) (by decide) rfl ?_
  refine pv_goto (pc := 144) (tgt := 122) dX11_init_144 (by decide) ?_
  refine pv_iload_1 (pc := 122) dX11_init_122 ?_
  refine pv_bipush (pc := 123) (v := 8) dX11_init_123 (by decide) ?_
  refine pv_icmp_ge (pc := 125) (tgt := 147) dX11_init_125 (by decide) (fun q => absurd q (by decide)) (fun _ => ?_)
  refine pv_aload_0 (pc := 128) dX11_init_128 ?_
  refine pv_getR (pc := 129) dX11_init_129 fg_X11_11_11 rfl (by decide) (tl_at (k := 37) (i := 0) rfl (by decide) rfl) rfl ?_
  refine pv_iload_1 (pc := 132) dX11_init_132 ?_
  refine pa_new (pc := 133) (k := 37) (A := 53) (bc := 7) (bs := 661) (r := (RX8, TX8, 7)) dX11_init_133 rfl cl_X11_9 in_X8 ii_X8 (by decide) rfl rfl ?_
  refine pv_dup (pc := 136) dX11_init_136 rfl ?_
  refine pv_callI (bc := 6) (bs := 501) (mc1 := 1) (ms1 := 160) (d1 := d - 1) (pc := 137) dX11_init_137 mgX8_init li_X11_65 (by omega) (c_ini_X8_53 (by omega)) rfl rfl (Nat.le_of_ble_eq_true rfl) (fun v t I L Rf hq => ?_)
  obtain ⟨rfl, rfl, rfl, rfl, rfl⟩ := hq
  refine pa_aastore (pc := 140) (j := 4) (r := (RX8, TX8, 7)) dX11_init_140 (by decide) (tl_at (k := 39) (i := 1) rfl (by decide) rfl) (by decide) (tl_at (k := 39) (i := 37) rfl (by decide) rfl) rfl (Or.inl rfl) (by decide) (by unfold vp_in; decide) ?_
  refine pv_iinc_1 (pc := 141) (v := 5) dX11_init_141 (by decide) (by decide) rfl ?_
  refine pv_goto (pc := 144) (tgt := 122) dX11_init_144 (by decide) ?_
  refine pv_iload_1 (pc := 122) dX11_init_122 ?_
  refine pv_bipush (pc := 123) (v := 8) dX11_init_123 (by decide) ?_
  refine pv_icmp_ge (pc := 125) (tgt := 147) dX11_init_125 (by decide) (fun q => absurd q (by decide)) (fun _ => ?_)
  refine pv_aload_0 (pc := 128) dX11_init_128 ?_
  refine pv_getR (pc := 129) dX11_init_129 fg_X11_11_11 rfl (by decide) (tl_at (k := 39) (i := 0) rfl (by decide) rfl) rfl ?_
  refine pv_iload_1 (pc := 132) dX11_init_132 ?_
  refine pa_new (pc := 133) (k := 39) (A := 55) (bc := 5) (bs := 494) (r := (RX8, TX8, 7)) dX11_init_133 rfl cl_X11_9 in_X8 ii_X8 (by decide) rfl rfl ?_
  refine pv_dup (pc := 136) dX11_init_136 rfl ?_
  refine pv_callI (bc := 4) (bs := 334) (mc1 := 1) (ms1 := 160) (d1 := d - 1) (pc := 137) dX11_init_137 mgX8_init li_X11_65 (by omega) (c_ini_X8_55 (by omega)) rfl rfl (Nat.le_of_ble_eq_true rfl) (fun v t I L Rf hq => ?_)
  obtain ⟨rfl, rfl, rfl, rfl, rfl⟩ := hq
  refine pa_aastore (pc := 140) (j := 5) (r := (RX8, TX8, 7)) dX11_init_140 (by decide) (tl_at (k := 41) (i := 1) rfl (by decide) rfl) (by decide) (tl_at (k := 41) (i := 39) rfl (by decide) rfl) rfl (Or.inl rfl) (by decide) (by unfold vp_in; decide) ?_
  refine pv_iinc_1 (pc := 141) (v := 6) dX11_init_141 (by decide) (by decide) rfl ?_
  refine pv_goto (pc := 144) (tgt := 122) dX11_init_144 (by decide) ?_
  refine pv_iload_1 (pc := 122) dX11_init_122 ?_
  refine pv_bipush (pc := 123) (v := 8) dX11_init_123 (by decide) ?_
  refine pv_icmp_ge (pc := 125) (tgt := 147) dX11_init_125 (by decide) (fun q => absurd q (by decide)) (fun _ => ?_)
  refine pv_aload_0 (pc := 128) dX11_init_128 ?_
  refine pv_getR (pc := 129) dX11_init_129 fg_X11_11_11 rfl (by decide) (tl_at (k := 41) (i := 0) rfl (by decide) rfl) rfl ?_
  refine pv_iload_1 (pc := 132) dX11_init_132 ?_
  refine pa_new (pc := 133) (k := 41) (A := 57) (bc := 3) (bs := 327) (r := (RX8, TX8, 7)) dX11_init_133 rfl cl_X11_9 in_X8 ii_X8 (by decide) rfl rfl ?_
  refine pv_dup (pc := 136) dX11_init_136 rfl ?_
  refine pv_callI (bc := 2) (bs := 167) (mc1 := 1) (ms1 := 160) (d1 := d - 1) (pc := 137) dX11_init_137 mgX8_init li_X11_65 (by omega) (c_ini_X8_57 (by omega)) rfl rfl (Nat.le_of_ble_eq_true rfl) (fun v t I L Rf hq => ?_)
  obtain ⟨rfl, rfl, rfl, rfl, rfl⟩ := hq
  refine pa_aastore (pc := 140) (j := 6) (r := (RX8, TX8, 7)) dX11_init_140 (by decide) (tl_at (k := 43) (i := 1) rfl (by decide) rfl) (by decide) (tl_at (k := 43) (i := 41) rfl (by decide) rfl) rfl (Or.inl rfl) (by decide) (by unfold vp_in; decide) ?_
  refine pv_iinc_1 (pc := 141) (v := 7) dX11_init_141 (by decide) (by decide) rfl ?_
  refine pv_goto (pc := 144) (tgt := 122) dX11_init_144 (by decide) ?_
  refine pv_iload_1 (pc := 122) dX11_init_122 ?_
  refine pv_bipush (pc := 123) (v := 8) dX11_init_123 (by decide) ?_
  refine pv_icmp_ge (pc := 125) (tgt := 147) dX11_init_125 (by decide) (fun q => absurd q (by decide)) (fun _ => ?_)
  refine pv_aload_0 (pc := 128) dX11_init_128 ?_
  refine pv_getR (pc := 129) dX11_init_129 fg_X11_11_11 rfl (by decide) (tl_at (k := 43) (i := 0) rfl (by decide) rfl) rfl ?_
  refine pv_iload_1 (pc := 132) dX11_init_132 ?_
  refine pa_new (pc := 133) (k := 43) (A := 59) (bc := 1) (bs := 160) (r := (RX8, TX8, 7)) dX11_init_133 rfl cl_X11_9 in_X8 ii_X8 (by decide) rfl rfl ?_
  refine pv_dup (pc := 136) dX11_init_136 rfl ?_
  refine pv_callI (bc := 0) (bs := 0) (mc1 := 1) (ms1 := 160) (d1 := d - 1) (pc := 137) dX11_init_137 mgX8_init li_X11_65 (by omega) (c_ini_X8_59 (by omega)) rfl rfl (Nat.le_of_ble_eq_true rfl) (fun v t I L Rf hq => ?_)
  obtain ⟨rfl, rfl, rfl, rfl, rfl⟩ := hq
  refine pa_aastore (pc := 140) (j := 7) (r := (RX8, TX8, 7)) dX11_init_140 (by decide) (tl_at (k := 45) (i := 1) rfl (by decide) rfl) (by decide) (tl_at (k := 45) (i := 43) rfl (by decide) rfl) rfl (Or.inl rfl) (by decide) (by unfold vp_in; decide) ?_
  refine pv_iinc_1 (pc := 141) (v := 8) dX11_init_141 (by decide) (by decide) rfl ?_
  refine pv_goto (pc := 144) (tgt := 122) dX11_init_144 (by decide) ?_
  refine pv_iload_1 (pc := 122) dX11_init_122 ?_
  refine pv_bipush (pc := 123) (v := 8) dX11_init_123 (by decide) ?_
  refine pv_icmp_ge (pc := 125) (tgt := 147) dX11_init_125 (by decide) (fun _ => ?_) (fun q => absurd q (by decide))
  refine pv_vret (pc := 147) dX11_init_147 rfl ?_
  refine ⟨rfl, rfl, fun j _ => rfl, ⟨rfl, hI0 11, rfl⟩, ⟨rfl, rfl, rfl, rfl, rfl, rfl⟩, ⟨rfl, rfl, rfl, rfl⟩, ⟨⟨rfl, rfl, rfl⟩, ⟨rfl, rfl, rfl⟩, ⟨rfl, rfl, rfl⟩, ⟨rfl, rfl, rfl⟩, ⟨rfl, rfl, rfl⟩, ⟨rfl, rfl, rfl⟩, ⟨rfl, rfl, rfl⟩, ⟨rfl, rfl, rfl⟩⟩, ?_⟩
  exact List.forall_mem_cons.mpr ⟨rfl, List.forall_mem_cons.mpr ⟨rfl, List.forall_mem_cons.mpr ⟨rfl, List.forall_mem_cons.mpr ⟨rfl, List.forall_mem_cons.mpr ⟨rfl, List.forall_mem_cons.mpr ⟨rfl, List.forall_mem_cons.mpr ⟨rfl, List.forall_mem_cons.mpr ⟨rfl, List.forall_mem_cons.mpr ⟨rfl, List.forall_mem_cons.mpr ⟨rfl, List.forall_mem_cons.mpr ⟨rfl, List.forall_mem_cons.mpr ⟨rfl, List.forall_mem_cons.mpr ⟨rfl, List.forall_mem_cons.mpr ⟨rfl, List.forall_mem_cons.mpr ⟨rfl, List.forall_mem_cons.mpr ⟨rfl, List.forall_mem_cons.mpr ⟨rfl, List.forall_mem_cons.mpr ⟨rfl, List.forall_mem_cons.mpr ⟨rfl, List.forall_mem_cons.mpr ⟨rfl, List.forall_mem_cons.mpr ⟨rfl, List.forall_mem_cons.mpr ⟨rfl, List.forall_mem_cons.mpr ⟨rfl, List.forall_mem_cons.mpr ⟨rfl, List.forall_mem_cons.mpr ⟨rfl, List.forall_mem_cons.mpr ⟨rfl, List.forall_mem_cons.mpr ⟨rfl, List.forall_mem_cons.mpr ⟨rfl, List.forall_mem_cons.mpr ⟨rfl, List.forall_mem_cons.mpr ⟨rfl, List.forall_mem_cons.mpr ⟨rfl, List.forall_mem_cons.mpr ⟨rfl, List.forall_mem_cons.mpr ⟨rfl, List.forall_mem_cons.mpr ⟨rfl, List.forall_mem_cons.mpr ⟨rfl, List.forall_mem_cons.mpr ⟨rfl, List.forall_mem_cons.mpr ⟨rfl, List.forall_mem_cons.mpr ⟨rfl, List.forall_mem_cons.mpr ⟨rfl, List.forall_mem_cons.mpr ⟨rfl, List.forall_mem_cons.mpr ⟨rfl, List.forall_mem_cons.mpr ⟨rfl, List.forall_mem_cons.mpr ⟨rfl, List.forall_mem_cons.mpr ⟨rfl, (fun _ h => absurd h List.not_mem_nil)⟩⟩⟩⟩⟩⟩⟩⟩⟩⟩⟩⟩⟩⟩⟩⟩⟩⟩⟩⟩⟩⟩⟩⟩⟩⟩⟩⟩⟩⟩⟩⟩⟩⟩⟩⟩⟩⟩⟩⟩⟩⟩⟩⟩

