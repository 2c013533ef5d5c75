/-! constructors: the reference's -/
/-- what a new object of the reference shows -/
def m_at0 (I : pv_I) (L : pv_L) (Rf : pv_R) : Prop := (I 61 0 = 0 ∧ I 61 1 = 0 ∧ I 61 2 = 0 ∧ I 61 3 = 1 ∧ I 61 4 = -1 ∧ I 61 59 = 0 ∧ I 61 60 = 0 ∧ L 61 5 = 0 ∧ L 61 6 = 1) ∧ (I 66 0 = 0 ∧ I 66 1 = 1 ∧ I 66 2 = 2 ∧ I 66 3 = 3) ∧
  (∀ j, I 67 j = 0 ∧ I 68 j = 0 ∧ I 69 j = 0 ∧ I 70 j = 0 ∧ I 62 j = 0) ∧ (∀ j, L 71 j = 0) ∧ b_wok I ∧ ∀ q ∈ rf_B, Rf q.1 q.2.1 = some q.2.2
set_option maxRecDepth 100000 in
set_option maxHeartbeats 4000000 in
theorem c_ini_X12 {G : pv_G} {d : Nat} {I : pv_I} {L : pv_L} {Rf : pv_R} (hI0 : ∀ j, I 61 j = 0) (hL0 : ∀ j, L 61 j = 0) (hd : 4 ≤ d) : pv_Mt G mX12_init d 28 2008 [.ref 61] (pv_tl G 46) I L Rf (fun v t1 I1 L1 R1 => v = none ∧ t1 = pv_tl G 74 ∧ (∀ a, a < 61 → I1 a = I a ∧ L1 a = L a ∧ R1 a = Rf a) ∧ m_at0 I1 L1 R1) := by
  refine pv_mt mgX12_init.2.2.2.2.2 [.ref 61, .retAddr 0] rfl (Nat.le_of_ble_eq_true rfl) ?_
  refine pv_aload_0 (pc := 0) dX12_init_0 ?_
  refine pv_objInit (pc := 1) dX12_init_1 ol_X12_1 oi_1 oi_2 (by omega) (by decide) ?_
  refine pv_aload_0 (pc := 4) dX12_init_4 ?_
  refine pv_iconst (pc := 5) (v := 1) dX12_init_5 (by decide) ?_
  refine pv_putI (pc := 6) dX12_init_6 fl_X12_7_12 (fun q => by cases q) ⟨rfl, rfl, rfl⟩ (by decide) (tl_at (k := 46) (i := 45) rfl (by decide) rfl) ?_
  refine pv_aload_0 (pc := 9) dX12_init_9 ?_
  refine pv_iconst (pc := 10) (v := (-1)) dX12_init_10 (by decide) ?_
  refine pv_putI (pc := 11) dX12_init_11 fl_X12_13_12 (fun q => by cases q) ⟨rfl, rfl, rfl⟩ (by decide) (tl_at (k := 46) (i := 45) rfl (by decide) rfl) ?_
  refine pv_aload_0 (pc := 14) dX12_init_14 ?_
  refine pv_lconst (pc := 15) (v := 1) dX12_init_15 (by decide) ?_
  refine pv_putL (pc := 16) dX12_init_16 fl_X12_16_12 (fun q => by cases q) (by decide) (tl_at (k := 46) (i := 45) rfl (by decide) rfl) ?_
  refine pv_aload_0 (pc := 19) dX12_init_19 ?_
  refine pv_bipush (pc := 20) (v := 8) dX12_init_20 (by decide) ?_
  refine pa_newI (pc := 22) (k := 46) (A := 62) (N := 8) (bc := 27) (bs := 2000) dX12_init_22 ac_int (by decide) (by decide) (by decide) rfl rfl ?_
  refine pv_putR (pc := 24) (M := mX12_init) (idx := 20) dX12_init_24 fl_X12_20_12 (fun _ => rfl) rfl (by decide) (tl_at (k := 47) (i := 45) rfl (by decide) rfl) (o := some _) rfl ?_
  refine pv_aload_0 (pc := 27) dX12_init_27 ?_
  refine pv_bipush (pc := 28) (v := 8) dX12_init_28 (by decide) ?_
  refine pa_newI (pc := 30) (k := 47) (A := 63) (N := 8) (bc := 26) (bs := 1992) dX12_init_30 ac_int (by decide) (by decide) (by decide) rfl rfl ?_
  refine pv_putR (pc := 32) (M := mX12_init) (idx := 24) dX12_init_32 fl_X12_24_12 (fun _ => rfl) rfl (by decide) (tl_at (k := 48) (i := 45) rfl (by decide) rfl) (o := some _) rfl ?_
  refine pv_aload_0 (pc := 35) dX12_init_35 ?_
  refine pv_bipush (pc := 36) (v := 8) dX12_init_36 (by decide) ?_
  refine pa_newI (pc := 38) (k := 48) (A := 64) (N := 8) (bc := 25) (bs := 1984) dX12_init_38 ac_int (by decide) (by decide) (by decide) rfl rfl ?_
  refine pv_putR (pc := 40) (M := mX12_init) (idx := 27) dX12_init_40 fl_X12_27_12 (fun _ => rfl) rfl (by decide) (tl_at (k := 49) (i := 45) rfl (by decide) rfl) (o := some _) rfl ?_
  refine pv_aload_0 (pc := 43) dX12_init_43 ?_
  refine pv_bipush (pc := 44) (v := 8) dX12_init_44 (by decide) ?_
  refine pa_newI (pc := 46) (k := 49) (A := 65) (N := 8) (bc := 24) (bs := 1976) dX12_init_46 ac_int (by decide) (by decide) (by decide) rfl rfl ?_
  refine pv_putR (pc := 48) (M := mX12_init) (idx := 30) dX12_init_48 fl_X12_30_12 (fun _ => rfl) rfl (by decide) (tl_at (k := 50) (i := 45) rfl (by decide) rfl) (o := some _) rfl ?_
  refine pv_aload_0 (pc := 51) dX12_init_51 ?_
  refine pv_iconst (pc := 52) (v := 4) dX12_init_52 (by decide) ?_
  refine pa_newI (pc := 53) (k := 50) (A := 66) (N := 4) (bc := 23) (bs := 1972) dX12_init_53 ac_int (by decide) (by decide) (by decide) rfl rfl ?_
  refine pv_putR (pc := 55) (M := mX12_init) (idx := 33) dX12_init_55 fl_X12_33_12 (fun _ => rfl) rfl (by decide) (tl_at (k := 51) (i := 45) rfl (by decide) rfl) (o := some _) rfl ?_
  refine pv_aload_0 (pc := 58) dX12_init_58 ?_
  refine pv_bipush (pc := 59) (v := 8) dX12_init_59 (by decide) ?_
  refine pa_newI (pc := 61) (k := 51) (A := 67) (N := 8) (bc := 22) (bs := 1964) dX12_init_61 ac_int (by decide) (by decide) (by decide) rfl rfl ?_
  refine pv_putR (pc := 63) (M := mX12_init) (idx := 36) dX12_init_63 fl_X12_36_12 (fun _ => rfl) rfl (by decide) (tl_at (k := 52) (i := 45) rfl (by decide) rfl) (o := some _) rfl ?_
  refine pv_aload_0 (pc := 66) dX12_init_66 ?_
  refine pv_bipush (pc := 67) (v := 8) dX12_init_67 (by decide) ?_
  refine pa_newI (pc := 69) (k := 52) (A := 68) (N := 8) (bc := 21) (bs := 1956) dX12_init_69 ac_int (by decide) (by decide) (by decide) rfl rfl ?_
  refine pv_putR (pc := 71) (M := mX12_init) (idx := 39) dX12_init_71 fl_X12_39_12 (fun _ => rfl) rfl (by decide) (tl_at (k := 53) (i := 45) rfl (by decide) rfl) (o := some _) rfl ?_
  refine pv_aload_0 (pc := 74) dX12_init_74 ?_
  refine pv_bipush (pc := 75) (v := 8) dX12_init_75 (by decide) ?_
  refine pa_newI (pc := 77) (k := 53) (A := 69) (N := 8) (bc := 20) (bs := 1948) dX12_init_77 ac_int (by decide) (by decide) (by decide) rfl rfl ?_
  refine pv_putR (pc := 79) (M := mX12_init) (idx := 42) dX12_init_79 fl_X12_42_12 (fun _ => rfl) rfl (by decide) (tl_at (k := 54) (i := 45) rfl (by decide) rfl) (o := some _) rfl ?_
  refine pv_aload_0 (pc := 82) dX12_init_82 ?_
  refine pv_bipush (pc := 83) (v := 8) dX12_init_83 (by decide) ?_
  refine pa_newI (pc := 85) (k := 54) (A := 70) (N := 8) (bc := 19) (bs := 1940) dX12_init_85 ac_int (by decide) (by decide) (by decide) rfl rfl ?_
  refine pv_putR (pc := 87) (M := mX12_init) (idx := 45) dX12_init_87 fl_X12_45_12 (fun _ => rfl) rfl (by decide) (tl_at (k := 55) (i := 45) rfl (by decide) rfl) (o := some _) rfl ?_
  refine pv_aload_0 (pc := 90) dX12_init_90 ?_
  refine pv_sipush (pc := 91) (v := 1280) dX12_init_91 (by decide) ?_
  refine pa_newL (pc := 94) (k := 55) (A := 71) (N := 1280) (bc := 18) (bs := 660) dX12_init_94 ac_long (by decide) (by decide) (by decide) rfl rfl ?_
  refine pv_putR (pc := 96) (M := mX12_init) (idx := 48) dX12_init_96 fl_X12_48_12 (fun _ => rfl) rfl (by decide) (tl_at (k := 56) (i := 45) rfl (by decide) rfl) (o := some _) rfl ?_
  refine pv_aload_0 (pc := 99) dX12_init_99 ?_
  refine pv_sipush (pc := 100) (v := 160) dX12_init_100 (by decide) ?_
  refine pa_newL (pc := 103) (k := 56) (A := 72) (N := 160) (bc := 17) (bs := 500) dX12_init_103 ac_long (by decide) (by decide) (by decide) rfl rfl ?_
  refine pv_putR (pc := 105) (M := mX12_init) (idx := 52) dX12_init_105 fl_X12_52_12 (fun _ => rfl) rfl (by decide) (tl_at (k := 57) (i := 45) rfl (by decide) rfl) (o := some _) rfl ?_
  refine pv_aload_0 (pc := 108) dX12_init_108 ?_
  refine pv_iconst (pc := 109) (v := 4) dX12_init_109 (by decide) ?_
  refine pa_newI (pc := 110) (k := 57) (A := 73) (N := 4) (bc := 16) (bs := 496) dX12_init_110 ac_int (by decide) (by decide) (by decide) rfl rfl ?_
  refine pv_putR (pc := 112) (M := mX12_init) (idx := 55) dX12_init_112 fl_X12_55_12 (fun _ => rfl) rfl (by decide) (tl_at (k := 58) (i := 45) rfl (by decide) rfl) (o := some _) rfl ?_
  refine pv_aload_0 (pc := 115) dX12_init_115 ?_
  refine pv_bipush (pc := 116) (v := 21) dX12_init_116 (by decide) ?_
  refine pa_newI (pc := 118) (k := 58) (A := 74) (N := 21) (bc := 15) (bs := 475) dX12_init_118 ac_int (by decide) (by decide) (by decide) rfl rfl ?_
  refine pv_dup (pc := 120) dX12_init_120 rfl ?_
  refine pv_iconst (pc := 121) (v := 0) dX12_init_121 (by decide) ?_
  refine pv_bipush (pc := 122) (v := 102) dX12_init_122 (by decide) ?_
  refine pv_iastorej (pc := 124) dX12_init_124 (by decide) (tl_at (k := 59) (i := 58) rfl (by decide) rfl) (j := 0) (by decide) (by unfold vp_in; decide) ?_
  refine pv_dup (pc := 125) dX12_init_125 rfl ?_
  refine pv_iconst (pc := 126) (v := 1) dX12_init_126 (by decide) ?_
  refine pv_bipush (pc := 127) (v := 105) dX12_init_127 (by decide) ?_
  refine pv_iastorej (pc := 129) dX12_init_129 (by decide) (tl_at (k := 59) (i := 58) rfl (by decide) rfl) (j := 1) (by decide) (by unfold vp_in; decide) ?_
  refine pv_dup (pc := 130) dX12_init_130 rfl ?_
  refine pv_iconst (pc := 131) (v := 2) dX12_init_131 (by decide) ?_
  refine pv_bipush (pc := 132) (v := 103) dX12_init_132 (by decide) ?_
  refine pv_iastorej (pc := 134) dX12_init_134 (by decide) (tl_at (k := 59) (i := 58) rfl (by decide) rfl) (j := 2) (by decide) (by unfold vp_in; decide) ?_
  refine pv_dup (pc := 135) dX12_init_135 rfl ?_
  refine pv_iconst (pc := 136) (v := 3) dX12_init_136 (by decide) ?_
  refine pv_bipush (pc := 137) (v := 117) dX12_init_137 (by decide) ?_
  refine pv_iastorej (pc := 139) dX12_init_139 (by decide) (tl_at (k := 59) (i := 58) rfl (by decide) rfl) (j := 3) (by decide) (by unfold vp_in; decide) ?_
  refine pv_dup (pc := 140) dX12_init_140 rfl ?_
  refine pv_iconst (pc := 141) (v := 4) dX12_init_141 (by decide) ?_
  refine pv_bipush (pc := 142) (v := 114) dX12_init_142 (by decide) ?_
  refine pv_iastorej (pc := 144) dX12_init_144 (by decide) (tl_at (k := 59) (i := 58) rfl (by decide) rfl) (j := 4) (by decide) (by unfold vp_in; decide) ?_
  refine pv_dup (pc := 145) dX12_init_145 rfl ?_
  refine pv_iconst (pc := 146) (v := 5) dX12_init_146 (by decide) ?_
  refine pv_bipush (pc := 147) (v := 101) dX12_init_147 (by decide) ?_
  refine pv_iastorej (pc := 149) dX12_init_149 (by decide) (tl_at (k := 59) (i := 58) rfl (by decide) rfl) (j := 5) (by decide) (by unfold vp_in; decide) ?_
  refine pv_dup (pc := 150) dX12_init_150 rfl ?_
  refine pv_bipush (pc := 151) (v := 6) dX12_init_151 (by decide) ?_
  refine pv_bipush (pc := 153) (v := 32) dX12_init_153 (by decide) ?_
  refine pv_iastorej (pc := 155) dX12_init_155 (by decide) (tl_at (k := 59) (i := 58) rfl (by decide) rfl) (j := 6) (by decide) (by unfold vp_in; decide) ?_
  refine pv_dup (pc := 156) dX12_init_156 rfl ?_
  refine pv_bipush (pc := 157) (v := 7) dX12_init_157 (by decide) ?_
  refine pv_iconst (pc := 159) (v := 0) dX12_init_159 (by decide) ?_
  refine pv_iastorej (pc := 160) dX12_init_160 (by decide) (tl_at (k := 59) (i := 58) rfl (by decide) rfl) (j := 7) (by decide) (by unfold vp_in; decide) ?_
  refine pv_dup (pc := 161) dX12_init_161 rfl ?_
  refine pv_bipush (pc := 162) (v := 8) dX12_init_162 (by decide) ?_
  refine pv_bipush (pc := 164) (v := 99) dX12_init_164 (by decide) ?_
  refine pv_iastorej (pc := 166) dX12_init_166 (by decide) (tl_at (k := 59) (i := 58) rfl (by decide) rfl) (j := 8) (by decide) (by unfold vp_in; decide) ?_
  refine pv_dup (pc := 167) dX12_init_167 rfl ?_
  refine pv_bipush (pc := 168) (v := 9) dX12_init_168 (by decide) ?_
  refine pv_bipush (pc := 170) (v := 97) dX12_init_170 (by decide) ?_
  refine pv_iastorej (pc := 172) dX12_init_172 (by decide) (tl_at (k := 59) (i := 58) rfl (by decide) rfl) (j := 9) (by decide) (by unfold vp_in; decide) ?_
  refine pv_dup (pc := 173) dX12_init_173 rfl ?_
  refine pv_bipush (pc := 174) (v := 10) dX12_init_174 (by decide) ?_
  refine pv_bipush (pc := 176) (v := 108) dX12_init_176 (by decide) ?_
  refine pv_iastorej (pc := 178) dX12_init_178 (by decide) (tl_at (k := 59) (i := 58) rfl (by decide) rfl) (j := 10) (by decide) (by unfold vp_in; decide) ?_
  refine pv_dup (pc := 179) dX12_init_179 rfl ?_
  refine pv_bipush (pc := 180) (v := 11) dX12_init_180 (by decide) ?_
  refine pv_bipush (pc := 182) (v := 108) dX12_init_182 (by decide) ?_
  refine pv_iastorej (pc := 184) dX12_init_184 (by decide) (tl_at (k := 59) (i := 58) rfl (by decide) rfl) (j := 11) (by decide) (by unfold vp_in; decide) ?_
  refine pv_dup (pc := 185) dX12_init_185 rfl ?_
  refine pv_bipush (pc := 186) (v := 12) dX12_init_186 (by decide) ?_
  refine pv_bipush (pc := 188) (v := 32) dX12_init_188 (by decide) ?_
  refine pv_iastorej (pc := 190) dX12_init_190 (by decide) (tl_at (k := 59) (i := 58) rfl (by decide) rfl) (j := 12) (by decide) (by unfold vp_in; decide) ?_
  refine pv_dup (pc := 191) dX12_init_191 rfl ?_
  refine pv_bipush (pc := 192) (v := 13) dX12_init_192 (by decide) ?_
  refine pv_iconst (pc := 194) (v := 0) dX12_init_194 (by decide) ?_
  refine pv_iastorej (pc := 195) dX12_init_195 (by decide) (tl_at (k := 59) (i := 58) rfl (by decide) rfl) (j := 13) (by decide) (by unfold vp_in; decide) ?_
  refine pv_dup (pc := 196) dX12_init_196 rfl ?_
  refine pv_bipush (pc := 197) (v := 14) dX12_init_197 (by decide) ?_
  refine pv_bipush (pc := 199) (v := 115) dX12_init_199 (by decide) ?_
  refine pv_iastorej (pc := 201) dX12_init_201 (by decide) (tl_at (k := 59) (i := 58) rfl (by decide) rfl) (j := 14) (by decide) (by unfold vp_in; decide) ?_
  refine pv_dup (pc := 202) dX12_init_202 rfl ?_
  refine pv_bipush (pc := 203) (v := 15) dX12_init_203 (by decide) ?_
  refine pv_bipush (pc := 205) (v := 116) dX12_init_205 (by decide) ?_
  refine pv_iastorej (pc := 207) dX12_init_207 (by decide) (tl_at (k := 59) (i := 58) rfl (by decide) rfl) (j := 15) (by decide) (by unfold vp_in; decide) ?_
  refine pv_dup (pc := 208) dX12_init_208 rfl ?_
  refine pv_bipush (pc := 209) (v := 16) dX12_init_209 (by decide) ?_
  refine pv_bipush (pc := 211) (v := 97) dX12_init_211 (by decide) ?_
  refine pv_iastorej (pc := 213) dX12_init_213 (by decide) (tl_at (k := 59) (i := 58) rfl (by decide) rfl) (j := 16) (by decide) (by unfold vp_in; decide) ?_
  refine pv_dup (pc := 214) dX12_init_214 rfl ?_
  refine pv_bipush (pc := 215) (v := 17) dX12_init_215 (by decide) ?_
  refine pv_bipush (pc := 217) (v := 114) dX12_init_217 (by decide) ?_
  refine pv_iastorej (pc := 219) dX12_init_219 (by decide) (tl_at (k := 59) (i := 58) rfl (by decide) rfl) (j := 17) (by decide) (by unfold vp_in; decide) ?_
  refine pv_dup (pc := 220) dX12_init_220 rfl ?_
  refine pv_bipush (pc := 221) (v := 18) dX12_init_221 (by decide) ?_
  refine pv_bipush (pc := 223) (v := 116) dX12_init_223 (by decide) ?_
  refine pv_iastorej (pc := 225) dX12_init_225 (by decide) (tl_at (k := 59) (i := 58) rfl (by decide) rfl) (j := 18) (by decide) (by unfold vp_in; decide) ?_
  refine pv_dup (pc := 226) dX12_init_226 rfl ?_
  refine pv_bipush (pc := 227) (v := 19) dX12_init_227 (by decide) ?_
  refine pv_bipush (pc := 229) (v := 32) dX12_init_229 (by decide) ?_
  refine pv_iastorej (pc := 231) dX12_init_231 (by decide) (tl_at (k := 59) (i := 58) rfl (by decide) rfl) (j := 19) (by decide) (by unfold vp_in; decide) ?_
  refine pv_dup (pc := 232) dX12_init_232 rfl ?_
  refine pv_bipush (pc := 233) (v := 20) dX12_init_233 (by decide) ?_
  refine pv_iconst (pc := 235) (v := 0) dX12_init_235 (by decide) ?_
  refine pv_iastorej (pc := 236) dX12_init_236 (by decide) (tl_at (k := 59) (i := 58) rfl (by decide) rfl) (j := 20) (by decide) (by unfold vp_in; decide) ?_
  refine pv_putR (pc := 237) (M := mX12_init) (idx := 58) dX12_init_237 fl_X12_58_12 (fun _ => rfl) rfl (by decide) (tl_at (k := 59) (i := 45) rfl (by decide) rfl) (o := some _) rfl ?_
  refine pv_aload_0 (pc := 240) dX12_init_240 ?_
  refine pv_iconst (pc := 241) (v := 3) dX12_init_241 (by decide) ?_
  refine pa_newI (pc := 242) (k := 59) (A := 75) (N := 3) (bc := 14) (bs := 472) dX12_init_242 ac_int (by decide) (by decide) (by decide) rfl rfl ?_
  refine pv_putR (pc := 244) (M := mX12_init) (idx := 61) dX12_init_244 fl_X12_61_12 (fun _ => rfl) rfl (by decide) (tl_at (k := 60) (i := 45) rfl (by decide) rfl) (o := some _) rfl ?_
  refine pv_aload_0 (pc := 247) dX12_init_247 ?_
  refine pv_bipush (pc := 248) (v := 40) dX12_init_248 (by decide) ?_
  refine pa_newI (pc := 250) (k := 60) (A := 76) (N := 40) (bc := 13) (bs := 432) dX12_init_250 ac_int (by decide) (by decide) (by decide) rfl rfl ?_
  refine pv_putR (pc := 252) (M := mX12_init) (idx := 64) dX12_init_252 fl_X12_64_12 (fun _ => rfl) rfl (by decide) (tl_at (k := 61) (i := 45) rfl (by decide) rfl) (o := some _) rfl ?_
  refine pv_aload_0 (pc := 255) dX12_init_255 ?_
  refine pv_bipush (pc := 256) (v := 40) dX12_init_256 (by decide) ?_
  refine pa_newI (pc := 258) (k := 61) (A := 77) (N := 40) (bc := 12) (bs := 392) dX12_init_258 ac_int (by decide) (by decide) (by decide) rfl rfl ?_
  refine pv_putR (pc := 260) (M := mX12_init) (idx := 67) dX12_init_260 fl_X12_67_12 (fun _ => rfl) rfl (by decide) (tl_at (k := 62) (i := 45) rfl (by decide) rfl) (o := some _) rfl ?_
  refine pv_aload_0 (pc := 263) dX12_init_263 ?_
  refine pv_iconst (pc := 264) (v := 2) dX12_init_264 (by decide) ?_
  refine pa_newL (pc := 265) (k := 62) (A := 78) (N := 2) (bc := 11) (bs := 390) dX12_init_265 ac_long (by decide) (by decide) (by decide) rfl rfl ?_
  refine pv_putR (pc := 267) (M := mX12_init) (idx := 70) dX12_init_267 fl_X12_70_12 (fun _ => rfl) rfl (by decide) (tl_at (k := 63) (i := 45) rfl (by decide) rfl) (o := some _) rfl ?_
  refine pv_aload_0 (pc := 270) dX12_init_270 ?_
  refine pv_iconst (pc := 271) (v := 2) dX12_init_271 (by decide) ?_
  refine pa_newL (pc := 272) (k := 63) (A := 79) (N := 2) (bc := 10) (bs := 388) dX12_init_272 ac_long (by decide) (by decide) (by decide) rfl rfl ?_
  refine pv_putR (pc := 274) (M := mX12_init) (idx := 73) dX12_init_274 fl_X12_73_12 (fun _ => rfl) rfl (by decide) (tl_at (k := 64) (i := 45) rfl (by decide) rfl) (o := some _) rfl ?_
  refine pv_aload_0 (pc := 277) dX12_init_277 ?_
  refine pv_iconst (pc := 278) (v := 4) dX12_init_278 (by decide) ?_
  refine pa_newI (pc := 279) (k := 64) (A := 80) (N := 4) (bc := 9) (bs := 384) dX12_init_279 ac_int (by decide) (by decide) (by decide) rfl rfl ?_
  refine pv_putR (pc := 281) (M := mX12_init) (idx := 76) dX12_init_281 fl_X12_76_12 (fun _ => rfl) rfl (by decide) (tl_at (k := 65) (i := 45) rfl (by decide) rfl) (o := some _) rfl ?_
  refine pv_aload_0 (pc := 284) dX12_init_284 ?_
  refine pv_bipush (pc := 285) (v := 10) dX12_init_285 (by decide) ?_
  refine pa_newI (pc := 287) (k := 65) (A := 81) (N := 10) (bc := 8) (bs := 374) dX12_init_287 ac_int (by decide) (by decide) (by decide) rfl rfl ?_
  refine pv_putR (pc := 289) (M := mX12_init) (idx := 79) dX12_init_289 fl_X12_79_12 (fun _ => rfl) rfl (by decide) (tl_at (k := 66) (i := 45) rfl (by decide) rfl) (o := some _) rfl ?_
  refine pv_aload_0 (pc := 292) dX12_init_292 ?_
  refine pv_bipush (pc := 293) (v := 10) dX12_init_293 (by decide) ?_
  refine pa_newI (pc := 295) (k := 66) (A := 82) (N := 10) (bc := 7) (bs := 364) dX12_init_295 ac_int (by decide) (by decide) (by decide) rfl rfl ?_
  refine pv_putR (pc := 297) (M := mX12_init) (idx := 82) dX12_init_297 fl_X12_82_12 (fun _ => rfl) rfl (by decide) (tl_at (k := 67) (i := 45) rfl (by decide) rfl) (o := some _) rfl ?_
  refine pv_aload_0 (pc := 300) dX12_init_300 ?_
  refine pv_sipush (pc := 301) (v := 128) dX12_init_301 (by decide) ?_
  refine pa_newL (pc := 304) (k := 67) (A := 83) (N := 128) (bc := 6) (bs := 236) dX12_init_304 ac_long (by decide) (by decide) (by decide) rfl rfl ?_
  refine pv_putR (pc := 306) (M := mX12_init) (idx := 85) dX12_init_306 fl_X12_85_12 (fun _ => rfl) rfl (by decide) (tl_at (k := 68) (i := 45) rfl (by decide) rfl) (o := some _) rfl ?_
  refine pv_aload_0 (pc := 309) dX12_init_309 ?_
  refine pv_sipush (pc := 310) (v := 128) dX12_init_310 (by decide) ?_
  refine pa_newL (pc := 313) (k := 68) (A := 84) (N := 128) (bc := 5) (bs := 108) dX12_init_313 ac_long (by decide) (by decide) (by decide) rfl rfl ?_
  refine pv_putR (pc := 315) (M := mX12_init) (idx := 88) dX12_init_315 fl_X12_88_12 (fun _ => rfl) rfl (by decide) (tl_at (k := 69) (i := 45) rfl (by decide) rfl) (o := some _) rfl ?_
  refine pv_aload_0 (pc := 318) dX12_init_318 ?_
  refine pv_iconst (pc := 319) (v := 4) dX12_init_319 (by decide) ?_
  refine pa_newL (pc := 320) (k := 69) (A := 85) (N := 4) (bc := 4) (bs := 104) dX12_init_320 ac_long (by decide) (by decide) (by decide) rfl rfl ?_
  refine pv_putR (pc := 322) (M := mX12_init) (idx := 91) dX12_init_322 fl_X12_91_12 (fun _ => rfl) rfl (by decide) (tl_at (k := 70) (i := 45) rfl (by decide) rfl) (o := some _) rfl ?_
  refine pv_aload_0 (pc := 325) dX12_init_325 ?_
  refine pv_iconst (pc := 326) (v := 4) dX12_init_326 (by decide) ?_
  refine pa_newL (pc := 327) (k := 70) (A := 86) (N := 4) (bc := 3) (bs := 100) dX12_init_327 ac_long (by decide) (by decide) (by decide) rfl rfl ?_
  refine pv_putR (pc := 329) (M := mX12_init) (idx := 94) dX12_init_329 fl_X12_94_12 (fun _ => rfl) rfl (by decide) (tl_at (k := 71) (i := 45) rfl (by decide) rfl) (o := some _) rfl ?_
  refine pv_aload_0 (pc := 332) dX12_init_332 ?_
  refine pv_bipush (pc := 333) (v := 40) dX12_init_333 (by decide) ?_
  refine pa_newL (pc := 335) (k := 71) (A := 87) (N := 40) (bc := 2) (bs := 60) dX12_init_335 ac_long (by decide) (by decide) (by decide) rfl rfl ?_
  refine pv_putR (pc := 337) (M := mX12_init) (idx := 97) dX12_init_337 fl_X12_97_12 (fun _ => rfl) rfl (by decide) (tl_at (k := 72) (i := 45) rfl (by decide) rfl) (o := some _) rfl ?_
  refine pv_aload_0 (pc := 340) dX12_init_340 ?_
  refine pv_bipush (pc := 341) (v := 40) dX12_init_341 (by decide) ?_
  refine pa_newL (pc := 343) (k := 72) (A := 88) (N := 40) (bc := 1) (bs := 20) dX12_init_343 ac_long (by decide) (by decide) (by decide) rfl rfl ?_
  refine pv_putR (pc := 345) (M := mX12_init) (idx := 100) dX12_init_345 fl_X12_100_12 (fun _ => rfl) rfl (by decide) (tl_at (k := 73) (i := 45) rfl (by decide) rfl) (o := some _) rfl ?_
  refine pv_aload_0 (pc := 348) dX12_init_348 ?_
  refine pv_bipush (pc := 349) (v := 20) dX12_init_349 (by decide) ?_
  refine pa_newI (pc := 351) (k := 73) (A := 89) (N := 20) (bc := 0) (bs := 0) dX12_init_351 ac_int (by decide) (by decide) (by decide) rfl rfl ?_
  refine pv_putR (pc := 353) (M := mX12_init) (idx := 103) dX12_init_353 fl_X12_103_12 (fun _ => rfl) rfl (by decide) (tl_at (k := 74) (i := 45) rfl (by decide) rfl) (o := some _) rfl ?_
  refine pv_iconst (pc := 356) (v := 0) dX12_init_356 (by decide) ?_
  refine pv_istore_1 (pc := 357) dX12_init_357 (by decide) rfl ?_
  refine pv_iload_1 (pc := 358) dX12_init_358 ?_
  refine pv_iconst (pc := 359) (v := 4) dX12_init_359 (by decide) ?_
  refine pv_icmp_ge (pc := 360) (tgt := 376) dX12_init_360 (by decide) (fun q => absurd q (by decide)) (fun _ => ?_)
  refine pv_aload_0 (pc := 363) dX12_init_363 ?_
  refine pv_getR (pc := 364) dX12_init_364 fg_X12_33_12 rfl (by decide) (tl_at (k := 74) (i := 45) rfl (by decide) rfl) rfl ?_
  refine pv_iload_1 (pc := 367) dX12_init_367 ?_
  refine pv_iload_1 (pc := 368) dX12_init_368 ?_
  refine pv_iastorej (pc := 369) dX12_init_369 (by decide) (tl_at (k := 74) (i := 50) rfl (by decide) rfl) (j := 0) (by decide) (by unfold vp_in; decide) ?_
  refine pv_iinc_1 (pc := 370) (v := 1) dX12_init_370 (by decide) (by decide) rfl ?_
  refine pv_goto (pc := 373) (tgt := 358) dX12_init_373 (by decide) ?_
  refine pv_iload_1 (pc := 358) dX12_init_358 ?_
  refine pv_iconst (pc := 359) (v := 4) dX12_init_359 (by decide) ?_
  refine pv_icmp_ge (pc := 360) (tgt := 376) dX12_init_360 (by decide) (fun q => absurd q (by decide)) (fun _ => ?_)
  refine pv_aload_0 (pc := 363) dX12_init_363 ?_
  refine pv_getR (pc := 364) dX12_init_364 fg_X12_33_12 rfl (by decide) (tl_at (k := 74) (i := 45) rfl (by decide) rfl) rfl ?_
  refine pv_iload_1 (pc := 367) dX12_init_367 ?_
  refine pv_iload_1 (pc := 368) dX12_init_368 ?_
  refine pv_iastorej (pc := 369) dX12_init_369 (by decide) (tl_at (k := 74) (i := 50) rfl (by decide) rfl) (j := 1) (by decide) (by unfold vp_in; decide) ?_
  refine pv_iinc_1 (pc := 370) (v := 2) dX12_init_370 (by decide) (by decide) rfl ?_
  refine pv_goto (pc := 373) (tgt := 358) dX12_init_373 (by decide) ?_
  refine pv_iload_1 (pc := 358) dX12_init_358 ?_
  refine pv_iconst (pc := 359) (v := 4) dX12_init_359 (by decide) ?_
  refine pv_icmp_ge (pc := 360) (tgt := 376) dX12_init_360 (by decide) (fun q => absurd q (by decide)) (fun _ => ?_)
  refine pv_aload_0 (pc := 363) dX12_init_363 ?_
  refine pv_getR (pc := 364) dX12_init_364 fg_X12_33_12 rfl (by decide) (tl_at (k := 74) (i := 45) rfl (by decide) rfl) rfl ?_
  refine pv_iload_1 (pc := 367) dX12_init_367 ?_
  refine pv_iload_1 (pc := 368) dX12_init_368 ?_
  refine pv_iastorej (pc := 369) dX12_init_369 (by decide) (tl_at (k := 74) (i := 50) rfl (by decide) rfl) (j := 2) (by decide) (by unfold vp_in; decide) ?_
  refine pv_iinc_1 (pc := 370) (v := 3) dX12_init_370 (by decide) (by decide) rfl ?_
  refine pv_goto (pc := 373) (tgt := 358) dX12_init_373 (by decide) ?_
  refine pv_iload_1 (pc := 358) dX12_init_358 ?_
  refine pv_iconst (pc := 359) (v := 4) dX12_init_359 (by decide) ?_
  refine pv_icmp_ge (pc := 360) (tgt := 376) dX12_init_360 (by decide) (fun q => absurd q (by decide)) (fun _ => ?_)
  refine pv_aload_0 (pc := 363) dX12_init_363 ?_
  refine pv_getR (pc := 364) dX12_init_364 fg_X12_33_12 rfl (by decide) (tl_at (k := 74) (i := 45) rfl (by decide) rfl) rfl ?_
  refine pv_iload_1 (pc := 367) dX12_init_367 ?_
  refine pv_iload_1 (pc := 368) dX12_init_368 ?_
  refine pv_iastorej (pc := 369) dX12_init_369 (by decide) (tl_at (k := 74) (i := 50) rfl (by decide) rfl) (j := 3) (by decide) (by unfold vp_in; decide) ?_
  refine pv_iinc_1 (pc := 370) (v := 4) dX12_init_370 (by decide) (by decide) rfl ?_
  refine pv_goto (pc := 373) (tgt := 358) dX12_init_373 (by decide) ?_
  refine pv_iload_1 (pc := 358) dX12_init_358 ?_
  refine pv_iconst (pc := 359) (v := 4) dX12_init_359 (by decide) ?_
  refine pv_icmp_ge (pc := 360) (tgt := 376) dX12_init_360 (by decide) (fun _ => ?_) (fun q => absurd q (by decide))
  refine pv_vret (pc := 376) dX12_init_376 rfl ?_
  refine ⟨rfl, rfl, fun a ha => ⟨?_, ?_, ?_⟩, ⟨hI0 0, hI0 1, hI0 2, rfl, rfl, hI0 59, hI0 60, hL0 5, rfl⟩, ⟨rfl, rfl, rfl, rfl⟩, fun j => ⟨rfl, rfl, rfl, rfl, rfl⟩, fun j => rfl, fun j x h => ?_, ?_⟩
  · repeat first | rw [pv_u_ne _ _ (by omega)] | rw [pv_ur_ne _ _ (by omega)]
  · repeat first | rw [pv_u_ne _ _ (by omega)] | rw [pv_ur_ne _ _ (by omega)]
  · repeat first | rw [pv_u_ne _ _ (by omega)] | rw [pv_ur_ne _ _ (by omega)]
  · have hj : j < 21 := (List.getElem?_eq_some_iff.mp h).1
    rcases (by omega : j = 0 ∨ j = 1 ∨ j = 2 ∨ j = 3 ∨ j = 4 ∨ j = 5 ∨ j = 6 ∨ j = 7 ∨ j = 8 ∨ j = 9 ∨ j = 10 ∨ j = 11 ∨ j = 12 ∨ j = 13 ∨ j = 14 ∨ j = 15 ∨ j = 16 ∨ j = 17 ∨ j = 18 ∨ j = 19 ∨ j = 20) with rfl | rfl | rfl | rfl | rfl | rfl | rfl | rfl | rfl | rfl | rfl | rfl | rfl | rfl | rfl | rfl | rfl | rfl | rfl | rfl | rfl
    · exact (Option.some.inj h) ▸ rfl
    · exact (Option.some.inj h) ▸ rfl
    · exact (Option.some.inj h) ▸ rfl
    · exact (Option.some.inj h) ▸ rfl
    · exact (Option.some.inj h) ▸ rfl
    · exact (Option.some.inj h) ▸ rfl
    · exact (Option.some.inj h) ▸ rfl
    · exact (Option.some.inj h) ▸ rfl
    · exact (Option.some.inj h) ▸ rfl
    · exact (Option.some.inj h) ▸ rfl
    · exact (Option.some.inj h) ▸ rfl
    · exact (Option.some.inj h) ▸ rfl
    · exact (Option.some.inj h) ▸ rfl
    · exact (Option.some.inj h) ▸ rfl
    · exact (Option.some.inj h) ▸ rfl
    · exact (Option.some.inj h) ▸ rfl
    · exact (Option.some.inj h) ▸ rfl
    · exact (Option.some.inj h) ▸ rfl
    · exact (Option.some.inj h) ▸ rfl
    · exact (Option.some.inj h) ▸ rfl
    · exact (Option.some.inj h) ▸ rfl
  · exact List.forall_mem_cons.mpr ⟨rfl, List.forall_mem_cons.mpr ⟨rfl, List.forall_mem_cons.mpr ⟨rfl, List.forall_mem_cons.mpr ⟨rfl, List.forall_mem_cons.mpr ⟨rfl, List.forall_mem_cons.mpr ⟨rfl, List.forall_mem_cons.mpr ⟨rfl, List.forall_mem_cons.mpr ⟨rfl, List.forall_mem_cons.mpr ⟨rfl, List.forall_mem_cons.mpr ⟨rfl, List.forall_mem_cons.mpr ⟨rfl, List.forall_mem_cons.mpr ⟨rfl, List.forall_mem_cons.mpr ⟨rfl, List.forall_mem_cons.mpr ⟨rfl, List.forall_mem_cons.mpr ⟨rfl, List.forall_mem_cons.mpr ⟨rfl, List.forall_mem_cons.mpr ⟨rfl, List.forall_mem_cons.mpr ⟨rfl, List.forall_mem_cons.mpr ⟨rfl, List.forall_mem_cons.mpr ⟨rfl, List.forall_mem_cons.mpr ⟨rfl, List.forall_mem_cons.mpr ⟨rfl, List.forall_mem_cons.mpr ⟨rfl, List.forall_mem_cons.mpr ⟨rfl, List.forall_mem_cons.mpr ⟨rfl, List.forall_mem_cons.mpr ⟨rfl, List.forall_mem_cons.mpr ⟨rfl, List.forall_mem_cons.mpr ⟨rfl, (fun _ h => absurd h List.not_mem_nil)⟩⟩⟩⟩⟩⟩⟩⟩⟩⟩⟩⟩⟩⟩⟩⟩⟩⟩⟩⟩⟩⟩⟩⟩⟩⟩⟩⟩

