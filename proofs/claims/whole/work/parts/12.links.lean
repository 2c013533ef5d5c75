theorem pv_wg1 (i : Nat) {w : Cond} (h : (decide (tables_1_1[i]? = some w) && goodWord w) = true) : w ∈ lw_g := by
  simp only [Bool.and_eq_true, decide_eq_true_eq] at h
  exact List.mem_filter.mpr ⟨List.mem_append_right _ (List.mem_append_left _ (List.mem_of_getElem? h.1)), h.2⟩
theorem pv_wn1 (i : Nat) {w : Cond} (h : (decide (tables_1_1[i]? = some w) && pv_isN w) = true) : w ∈ lw_n := by
  simp only [Bool.and_eq_true, decide_eq_true_eq] at h
  exact List.mem_filter.mpr ⟨List.mem_append_right _ (List.mem_append_left _ (List.mem_of_getElem? h.1)), h.2⟩
theorem pv_wg2 (i : Nat) {w : Cond} (h : (decide (tables_1_2[i]? = some w) && goodWord w) = true) : w ∈ lw_g := by
  simp only [Bool.and_eq_true, decide_eq_true_eq] at h
  exact List.mem_filter.mpr ⟨List.mem_append_right _ (List.mem_append_right _ (List.mem_append_left _ (List.mem_of_getElem? h.1))), h.2⟩
theorem pv_wn2 (i : Nat) {w : Cond} (h : (decide (tables_1_2[i]? = some w) && pv_isN w) = true) : w ∈ lw_n := by
  simp only [Bool.and_eq_true, decide_eq_true_eq] at h
  exact List.mem_filter.mpr ⟨List.mem_append_right _ (List.mem_append_right _ (List.mem_append_left _ (List.mem_of_getElem? h.1))), h.2⟩
theorem pv_wg3 (i : Nat) {w : Cond} (h : (decide (tables_1_3[i]? = some w) && goodWord w) = true) : w ∈ lw_g := by
  simp only [Bool.and_eq_true, decide_eq_true_eq] at h
  exact List.mem_filter.mpr ⟨List.mem_append_right _ (List.mem_append_right _ (List.mem_append_right _ (List.mem_append_left _ (List.mem_of_getElem? h.1)))), h.2⟩
theorem pv_wn3 (i : Nat) {w : Cond} (h : (decide (tables_1_3[i]? = some w) && pv_isN w) = true) : w ∈ lw_n := by
  simp only [Bool.and_eq_true, decide_eq_true_eq] at h
  exact List.mem_filter.mpr ⟨List.mem_append_right _ (List.mem_append_right _ (List.mem_append_right _ (List.mem_append_left _ (List.mem_of_getElem? h.1)))), h.2⟩
theorem pv_wg4 (i : Nat) {w : Cond} (h : (decide (tables_1_4[i]? = some w) && goodWord w) = true) : w ∈ lw_g := by
  simp only [Bool.and_eq_true, decide_eq_true_eq] at h
  exact List.mem_filter.mpr ⟨List.mem_append_right _ (List.mem_append_right _ (List.mem_append_right _ (List.mem_append_right _ (List.mem_append_left _ (List.mem_of_getElem? h.1))))), h.2⟩
theorem pv_wn4 (i : Nat) {w : Cond} (h : (decide (tables_1_4[i]? = some w) && pv_isN w) = true) : w ∈ lw_n := by
  simp only [Bool.and_eq_true, decide_eq_true_eq] at h
  exact List.mem_filter.mpr ⟨List.mem_append_right _ (List.mem_append_right _ (List.mem_append_right _ (List.mem_append_right _ (List.mem_append_left _ (List.mem_of_getElem? h.1))))), h.2⟩
theorem pv_wg5 (i : Nat) {w : Cond} (h : (decide (tables_1_5[i]? = some w) && goodWord w) = true) : w ∈ lw_g := by
  simp only [Bool.and_eq_true, decide_eq_true_eq] at h
  exact List.mem_filter.mpr ⟨List.mem_append_right _ (List.mem_append_right _ (List.mem_append_right _ (List.mem_append_right _ (List.mem_append_right _ (List.mem_append_left _ (List.mem_of_getElem? h.1)))))), h.2⟩
theorem pv_wn5 (i : Nat) {w : Cond} (h : (decide (tables_1_5[i]? = some w) && pv_isN w) = true) : w ∈ lw_n := by
  simp only [Bool.and_eq_true, decide_eq_true_eq] at h
  exact List.mem_filter.mpr ⟨List.mem_append_right _ (List.mem_append_right _ (List.mem_append_right _ (List.mem_append_right _ (List.mem_append_right _ (List.mem_append_left _ (List.mem_of_getElem? h.1)))))), h.2⟩
theorem pv_wg6 (i : Nat) {w : Cond} (h : (decide (tables_1_6[i]? = some w) && goodWord w) = true) : w ∈ lw_g := by
  simp only [Bool.and_eq_true, decide_eq_true_eq] at h
  exact List.mem_filter.mpr ⟨List.mem_append_right _ (List.mem_append_right _ (List.mem_append_right _ (List.mem_append_right _ (List.mem_append_right _ (List.mem_append_right _ (List.mem_append_left _ (List.mem_of_getElem? h.1))))))), h.2⟩
theorem pv_wn6 (i : Nat) {w : Cond} (h : (decide (tables_1_6[i]? = some w) && pv_isN w) = true) : w ∈ lw_n := by
  simp only [Bool.and_eq_true, decide_eq_true_eq] at h
  exact List.mem_filter.mpr ⟨List.mem_append_right _ (List.mem_append_right _ (List.mem_append_right _ (List.mem_append_right _ (List.mem_append_right _ (List.mem_append_right _ (List.mem_append_left _ (List.mem_of_getElem? h.1))))))), h.2⟩
theorem pv_wg7 (i : Nat) {w : Cond} (h : (decide (tables_1_7[i]? = some w) && goodWord w) = true) : w ∈ lw_g := by
  simp only [Bool.and_eq_true, decide_eq_true_eq] at h
  exact List.mem_filter.mpr ⟨List.mem_append_right _ (List.mem_append_right _ (List.mem_append_right _ (List.mem_append_right _ (List.mem_append_right _ (List.mem_append_right _ (List.mem_append_right _ (List.mem_append_left _ (List.mem_of_getElem? h.1)))))))), h.2⟩
theorem pv_wn7 (i : Nat) {w : Cond} (h : (decide (tables_1_7[i]? = some w) && pv_isN w) = true) : w ∈ lw_n := by
  simp only [Bool.and_eq_true, decide_eq_true_eq] at h
  exact List.mem_filter.mpr ⟨List.mem_append_right _ (List.mem_append_right _ (List.mem_append_right _ (List.mem_append_right _ (List.mem_append_right _ (List.mem_append_right _ (List.mem_append_right _ (List.mem_append_left _ (List.mem_of_getElem? h.1)))))))), h.2⟩
theorem pv_wg8 (i : Nat) {w : Cond} (h : (decide (tables_1_8[i]? = some w) && goodWord w) = true) : w ∈ lw_g := by
  simp only [Bool.and_eq_true, decide_eq_true_eq] at h
  exact List.mem_filter.mpr ⟨List.mem_append_right _ (List.mem_append_right _ (List.mem_append_right _ (List.mem_append_right _ (List.mem_append_right _ (List.mem_append_right _ (List.mem_append_right _ (List.mem_append_right _ (List.mem_of_getElem? h.1)))))))), h.2⟩
theorem pv_wn8 (i : Nat) {w : Cond} (h : (decide (tables_1_8[i]? = some w) && pv_isN w) = true) : w ∈ lw_n := by
  simp only [Bool.and_eq_true, decide_eq_true_eq] at h
  exact List.mem_filter.mpr ⟨List.mem_append_right _ (List.mem_append_right _ (List.mem_append_right _ (List.mem_append_right _ (List.mem_append_right _ (List.mem_append_right _ (List.mem_append_right _ (List.mem_append_right _ (List.mem_of_getElem? h.1)))))))), h.2⟩
theorem pv_wp (i : Nat) {q : MethodName × Nat} (h : (decide (lw_privs[i]? = some q) && goodWord (.selects q.1.cls q.1 q.1)) = true) : Cond.selects q.1.cls q.1 q.1 ∈ lw_g := by
  simp only [Bool.and_eq_true, decide_eq_true_eq] at h
  exact List.mem_filter.mpr ⟨List.mem_append_left _ (List.mem_map.mpr ⟨q, List.mem_of_getElem? h.1, rfl⟩), h.2⟩
abbrev mX0_init : pv_Mth := (yX0_init, cX0_init, 6, none)
theorem mgX0_init : pv_MG mX0_init 5 := ⟨(pv_wg2 212 (by decide +kernel)), (pv_wg1 15 (by decide +kernel)), ⟨by decide, by decide⟩, by decide, by decide +kernel, by decide +kernel⟩
abbrev mX0_turns : pv_Mth := (yX0_turns, cX0_turns, 1, (some .int))
theorem mgX0_turns : pv_MG mX0_turns 0 := ⟨(pv_wg2 93 (by decide +kernel)), (pv_wg1 15 (by decide +kernel)), ⟨by decide, by decide⟩, by decide, by decide +kernel, by decide +kernel⟩
abbrev mX0_calls : pv_Mth := (yX0_calls, cX0_calls, 2, (some .int))
theorem mgX0_calls : pv_MG mX0_calls 1 := ⟨(pv_wg5 2 (by decide +kernel)), (pv_wg1 15 (by decide +kernel)), ⟨by decide, by decide⟩, by decide, by decide +kernel, by decide +kernel⟩
abbrev mX1_init : pv_Mth := (yX1_init, cX1_init, 6, none)
theorem mgX1_init : pv_MG mX1_init 5 := ⟨(pv_wg2 139 (by decide +kernel)), (pv_wg1 11 (by decide +kernel)), ⟨by decide, by decide⟩, by decide, by decide +kernel, by decide +kernel⟩
abbrev mX1_more : pv_Mth := (yX1_more, cX1_more, 1, (some .int))
theorem mgX1_more : pv_MG mX1_more 0 := ⟨(pv_wg2 111 (by decide +kernel)), (pv_wg1 11 (by decide +kernel)), ⟨by decide, by decide⟩, by decide, by decide +kernel, by decide +kernel⟩
abbrev mX1_move : pv_Mth := (yX1_move, cX1_move, 2, (some .boolean))
theorem mgX1_move : pv_MG mX1_move 1 := ⟨(pv_wg3 154 (by decide +kernel)), (pv_wg1 11 (by decide +kernel)), ⟨by decide, by decide⟩, by decide, by decide +kernel, by decide +kernel⟩
abbrev mX1_saying : pv_Mth := (yX1_saying, cX1_saying, 1, (some .int))
theorem mgX1_saying : pv_MG mX1_saying 0 := ⟨(pv_wg2 100 (by decide +kernel)), (pv_wg1 11 (by decide +kernel)), ⟨by decide, by decide⟩, by decide, by decide +kernel, by decide +kernel⟩
abbrev mX1_calls : pv_Mth := (yX1_calls, cX1_calls, 2, (some .int))
theorem mgX1_calls : pv_MG mX1_calls 1 := ⟨(pv_wg5 14 (by decide +kernel)), (pv_wg1 11 (by decide +kernel)), ⟨by decide, by decide⟩, by decide, by decide +kernel, by decide +kernel⟩
abbrev mX2_init : pv_Mth := (yX2_init, cX2_init, 1, none)
theorem mgX2_init : pv_MG mX2_init 0 := ⟨(pv_wg1 124 (by decide +kernel)), (pv_wg1 4 (by decide +kernel)), ⟨by decide, by decide⟩, by decide, by decide +kernel, by decide +kernel⟩
abbrev mX2_clear : pv_Mth := (yX2_clear, cX2_clear, 1, none)
theorem mgX2_clear : pv_MG mX2_clear 0 := ⟨(pv_wg4 138 (by decide +kernel)), (pv_wg1 4 (by decide +kernel)), ⟨by decide, by decide⟩, by decide, by decide +kernel, by decide +kernel⟩
abbrev mX2_begin : pv_Mth := (yX2_begin, cX2_begin, 2, none)
theorem mgX2_begin : pv_MG mX2_begin 1 := ⟨(pv_wg4 134 (by decide +kernel)), (pv_wg1 4 (by decide +kernel)), ⟨by decide, by decide⟩, by decide, by decide +kernel, by decide +kernel⟩
abbrev mX2_addStepped : pv_Mth := (yX2_addStepped, cX2_addStepped, 10, none)
theorem mgX2_addStepped : pv_MG mX2_addStepped 3 := ⟨(pv_wg4 156 (by decide +kernel)), (pv_wg1 4 (by decide +kernel)), ⟨by decide, by decide⟩, by decide, by decide +kernel, by decide +kernel⟩
abbrev mX2_add : pv_Mth := (yX2_add, cX2_add, 8, none)
theorem mgX2_add : pv_MG mX2_add 3 := ⟨(pv_wg4 145 (by decide +kernel)), (pv_wg1 4 (by decide +kernel)), ⟨by decide, by decide⟩, by decide, by decide +kernel, by decide +kernel⟩
abbrev mX2_slotOf : pv_Mth := (yX2_slotOf, cX2_slotOf, 8, (some .int))
theorem mgX2_slotOf : pv_MG mX2_slotOf 2 := ⟨(pv_wg4 149 (by decide +kernel)), (pv_wg1 4 (by decide +kernel)), ⟨by decide, by decide⟩, by decide, by decide +kernel, by decide +kernel⟩
abbrev mX2_allRows : pv_Mth := (yX2_allRows, cX2_allRows, 3, (some .int))
theorem mgX2_allRows : pv_MG mX2_allRows 0 := ⟨(pv_wg4 192 (by decide +kernel)), (pv_wg1 4 (by decide +kernel)), ⟨by decide, by decide⟩, by decide, by decide +kernel, by decide +kernel⟩
abbrev mX2_rowsTo : pv_Mth := (yX2_rowsTo, cX2_rowsTo, 6, (some .int))
theorem mgX2_rowsTo : pv_MG mX2_rowsTo 2 := ⟨(pv_wg4 201 (by decide +kernel)), (pv_wg1 4 (by decide +kernel)), ⟨by decide, by decide⟩, by decide, by decide +kernel, by decide +kernel⟩
abbrev mX2_outermost : pv_Mth := (yX2_outermost, cX2_outermost, 4, (some .int))
theorem mgX2_outermost : pv_MG mX2_outermost 1 := ⟨(pv_wg4 167 (by decide +kernel)), (pv_wg1 4 (by decide +kernel)), ⟨by decide, by decide⟩, by decide, by decide +kernel, by decide +kernel⟩
abbrev mX3_init : pv_Mth := (yX3_init, cX3_init, 6, none)
theorem mgX3_init : pv_MG mX3_init 5 := ⟨(pv_wg2 142 (by decide +kernel)), (pv_wg1 10 (by decide +kernel)), ⟨by decide, by decide⟩, by decide, by decide +kernel, by decide +kernel⟩
abbrev mX3_move : pv_Mth := (yX3_move, cX3_move, 2, (some .boolean))
theorem mgX3_move : pv_MG mX3_move 1 := ⟨(pv_wg3 165 (by decide +kernel)), (pv_wg1 10 (by decide +kernel)), ⟨by decide, by decide⟩, by decide, by decide +kernel, by decide +kernel⟩
abbrev mX3_saying : pv_Mth := (yX3_saying, cX3_saying, 1, (some .int))
theorem mgX3_saying : pv_MG mX3_saying 0 := ⟨(pv_wg2 116 (by decide +kernel)), (pv_wg1 10 (by decide +kernel)), ⟨by decide, by decide⟩, by decide, by decide +kernel, by decide +kernel⟩
abbrev mX3_ran : pv_Mth := (yX3_ran, cX3_ran, 2, none)
theorem mgX3_ran : pv_MG mX3_ran 1 := ⟨(pv_wg5 8 (by decide +kernel)), (pv_wg1 10 (by decide +kernel)), ⟨by decide, by decide⟩, by decide, by decide +kernel, by decide +kernel⟩
abbrev mX3_calls : pv_Mth := (yX3_calls, cX3_calls, 2, (some .int))
theorem mgX3_calls : pv_MG mX3_calls 1 := ⟨(pv_wg5 25 (by decide +kernel)), (pv_wg1 10 (by decide +kernel)), ⟨by decide, by decide⟩, by decide, by decide +kernel, by decide +kernel⟩
abbrev mX3_steps : pv_Mth := (yX3_steps, cX3_steps, 2, (some .int))
theorem mgX3_steps : pv_MG mX3_steps 1 := ⟨(pv_wg5 58 (by decide +kernel)), (pv_wg1 10 (by decide +kernel)), ⟨by decide, by decide⟩, by decide, by decide +kernel, by decide +kernel⟩
abbrev mX3_knots : pv_Mth := (yX3_knots, cX3_knots, 2, (some .int))
theorem mgX3_knots : pv_MG mX3_knots 1 := ⟨(pv_wg5 86 (by decide +kernel)), (pv_wg1 10 (by decide +kernel)), ⟨by decide, by decide⟩, by decide, by decide +kernel, by decide +kernel⟩
abbrev mX4_init : pv_Mth := (yX4_init, cX4_init, 1, none)
theorem mgX4_init : pv_MG mX4_init 0 := ⟨(pv_wg1 39 (by decide +kernel)), (pv_wg1 2 (by decide +kernel)), ⟨by decide, by decide⟩, by decide, by decide +kernel, by decide +kernel⟩
abbrev mX4_takeFrom : pv_Mth := (yX4_takeFrom, cX4_takeFrom, 2, none)
theorem mgX4_takeFrom : pv_MG mX4_takeFrom 1 := ⟨(pv_wg3 32 (by decide +kernel)), (pv_wg1 2 (by decide +kernel)), ⟨by decide, by decide⟩, by decide, by decide +kernel, by decide +kernel⟩
abbrev mX4_become : pv_Mth := (yX4_become, cX4_become, 5, none)
theorem mgX4_become : pv_MG mX4_become 2 := ⟨(pv_wg3 24 (by decide +kernel)), (pv_wg1 2 (by decide +kernel)), ⟨by decide, by decide⟩, by decide, by decide +kernel, by decide +kernel⟩
abbrev mX4_becomeEither : pv_Mth := (yX4_becomeEither, cX4_becomeEither, 6, none)
theorem mgX4_becomeEither : pv_MG mX4_becomeEither 2 := ⟨(pv_wg4 1 (by decide +kernel)), (pv_wg1 2 (by decide +kernel)), ⟨by decide, by decide⟩, by decide, by decide +kernel, by decide +kernel⟩
abbrev mX4_standsLike : pv_Mth := (yX4_standsLike, cX4_standsLike, 4, (some .boolean))
theorem mgX4_standsLike : pv_MG mX4_standsLike 1 := ⟨(pv_wg4 9 (by decide +kernel)), (pv_wg1 2 (by decide +kernel)), ⟨by decide, by decide⟩, by decide, by decide +kernel, by decide +kernel⟩
abbrev mX4_dance : pv_Mth := (yX4_dance, cX4_dance, 2, (some .boolean))
theorem mgX4_dance : pv_MG mX4_dance 1 := ⟨(pv_wg3 133 (by decide +kernel)), (pv_wg1 2 (by decide +kernel)), ⟨by decide, by decide⟩, by decide, by decide +kernel, by decide +kernel⟩
abbrev mX4_step : pv_Mth := (yX4_step, cX4_step, 2, (some .boolean))
theorem mgX4_step : pv_MG mX4_step 1 := ⟨(pv_wg4 216 (by decide +kernel)), (pv_wg1 2 (by decide +kernel)), ⟨by decide, by decide⟩, by decide, by decide +kernel, by decide +kernel⟩
abbrev mX4_change : pv_Mth := (yX4_change, cX4_change, 5, (some .boolean))
theorem mgX4_change : pv_MG mX4_change 1 := ⟨(pv_wg3 158 (by decide +kernel)), (pv_wg1 2 (by decide +kernel)), ⟨by decide, by decide⟩, by decide, by decide +kernel, by decide +kernel⟩
abbrev mX4_turn : pv_Mth := (yX4_turn, cX4_turn, 4, none)
theorem mgX4_turn : pv_MG mX4_turn 1 := ⟨(pv_wg3 144 (by decide +kernel)), (pv_wg1 2 (by decide +kernel)), ⟨by decide, by decide⟩, by decide, by decide +kernel, by decide +kernel⟩
abbrev mX4_join : pv_Mth := (yX4_join, cX4_join, 11, none)
theorem mgX4_join : pv_MG mX4_join 2 := ⟨(pv_wg4 96 (by decide +kernel)), (pv_wg1 2 (by decide +kernel)), ⟨by decide, by decide⟩, by decide, by decide +kernel, by decide +kernel⟩
abbrev mX4_turnOver : pv_Mth := (yX4_turnOver, cX4_turnOver, 1, none)
theorem mgX4_turnOver : pv_MG mX4_turnOver 0 := ⟨(pv_wg4 110 (by decide +kernel)), (pv_wg1 2 (by decide +kernel)), ⟨by decide, by decide⟩, by decide, by decide +kernel, by decide +kernel⟩
abbrev mX4_draw : pv_Mth := (yX4_draw, cX4_draw, 2, (some .int))
theorem mgX4_draw : pv_MG mX4_draw 1 := ⟨(pv_wg4 226 (by decide +kernel)), (pv_wg1 2 (by decide +kernel)), ⟨by decide, by decide⟩, by decide, by decide +kernel, by decide +kernel⟩
abbrev mX5_init : pv_Mth := (yX5_init, cX5_init, 6, none)
theorem mgX5_init : pv_MG mX5_init 5 := ⟨(pv_wg2 188 (by decide +kernel)), (pv_wg1 13 (by decide +kernel)), ⟨by decide, by decide⟩, by decide, by decide +kernel, by decide +kernel⟩
abbrev mX5_more : pv_Mth := (yX5_more, cX5_more, 1, (some .int))
theorem mgX5_more : pv_MG mX5_more 0 := ⟨(pv_wg2 107 (by decide +kernel)), (pv_wg1 13 (by decide +kernel)), ⟨by decide, by decide⟩, by decide, by decide +kernel, by decide +kernel⟩
abbrev mX5_steps : pv_Mth := (yX5_steps, cX5_steps, 2, (some .int))
theorem mgX5_steps : pv_MG mX5_steps 1 := ⟨(pv_wg5 35 (by decide +kernel)), (pv_wg1 13 (by decide +kernel)), ⟨by decide, by decide⟩, by decide, by decide +kernel, by decide +kernel⟩
abbrev mX5_knots : pv_Mth := (yX5_knots, cX5_knots, 2, (some .int))
theorem mgX5_knots : pv_MG mX5_knots 1 := ⟨(pv_wg5 76 (by decide +kernel)), (pv_wg1 13 (by decide +kernel)), ⟨by decide, by decide⟩, by decide, by decide +kernel, by decide +kernel⟩
abbrev mX6_init : pv_Mth := (yX6_init, cX6_init, 6, none)
theorem mgX6_init : pv_MG mX6_init 5 := ⟨(pv_wg2 224 (by decide +kernel)), (pv_wg1 16 (by decide +kernel)), ⟨by decide, by decide⟩, by decide, by decide +kernel, by decide +kernel⟩
abbrev mX6_turns : pv_Mth := (yX6_turns, cX6_turns, 1, (some .int))
theorem mgX6_turns : pv_MG mX6_turns 0 := ⟨(pv_wg2 96 (by decide +kernel)), (pv_wg1 16 (by decide +kernel)), ⟨by decide, by decide⟩, by decide, by decide +kernel, by decide +kernel⟩
abbrev mX6_knots : pv_Mth := (yX6_knots, cX6_knots, 2, (some .int))
theorem mgX6_knots : pv_MG mX6_knots 1 := ⟨(pv_wg5 82 (by decide +kernel)), (pv_wg1 16 (by decide +kernel)), ⟨by decide, by decide⟩, by decide, by decide +kernel, by decide +kernel⟩
abbrev mX6_steps : pv_Mth := (yX6_steps, cX6_steps, 2, (some .int))
theorem mgX6_steps : pv_MG mX6_steps 1 := ⟨(pv_wg5 44 (by decide +kernel)), (pv_wg1 16 (by decide +kernel)), ⟨by decide, by decide⟩, by decide, by decide +kernel, by decide +kernel⟩
abbrev mX7_init : pv_Mth := (yX7_init, cX7_init, 1, none)
theorem mgX7_init : pv_MG mX7_init 0 := ⟨(pv_wg1 77 (by decide +kernel)), (pv_wg1 3 (by decide +kernel)), ⟨by decide, by decide⟩, by decide, by decide +kernel, by decide +kernel⟩
abbrev mX7_open : pv_Mth := (yX7_open, cX7_open, 4, none)
theorem mgX7_open : pv_MG mX7_open 3 := ⟨(pv_wg4 39 (by decide +kernel)), (pv_wg1 3 (by decide +kernel)), ⟨by decide, by decide⟩, by decide, by decide +kernel, by decide +kernel⟩
abbrev mX7_add : pv_Mth := (yX7_add, cX7_add, 5, none)
theorem mgX7_add : pv_MG mX7_add 2 := ⟨(pv_wg4 43 (by decide +kernel)), (pv_wg1 3 (by decide +kernel)), ⟨by decide, by decide⟩, by decide, by decide +kernel, by decide +kernel⟩
abbrev mX7_isFound : pv_Mth := (yX7_isFound, cX7_isFound, 1, (some .boolean))
theorem mgX7_isFound : pv_MG mX7_isFound 0 := ⟨(pv_wg4 75 (by decide +kernel)), (pv_wg1 3 (by decide +kernel)), ⟨by decide, by decide⟩, by decide, by decide +kernel, by decide +kernel⟩
abbrev mX7_find : pv_Mth := (yX7_find, cX7_find, 7, none)
theorem mgX7_find : pv_MG mX7_find 4 := ⟨(pv_wg4 47 (by decide +kernel)), (pv_wg1 3 (by decide +kernel)), ⟨by decide, by decide⟩, by decide, by decide +kernel, by decide +kernel⟩
abbrev mX7_walk : pv_Mth := (yX7_walk, cX7_walk, 4, none)
theorem mgX7_walk : pv_MG mX7_walk 2 := ⟨(pv_wg4 52 (by decide +kernel)), (pv_wg1 3 (by decide +kernel)), ⟨by decide, by decide⟩, by decide, by decide +kernel, by decide +kernel⟩
abbrev mX7_isUndone : pv_Mth := (yX7_isUndone, cX7_isUndone, 4, (some .boolean))
theorem mgX7_isUndone : pv_MG mX7_isUndone 2 := ⟨(pv_wg4 65 (by decide +kernel)), (pv_wg1 3 (by decide +kernel)), ⟨by decide, by decide⟩, by decide, by decide +kernel, by decide +kernel⟩
abbrev mX7_isThere : pv_Mth := (yX7_isThere, cX7_isThere, 6, (some .boolean))
theorem mgX7_isThere : pv_MG mX7_isThere 1 := ⟨(pv_wg4 56 (by decide +kernel)), (pv_wg1 3 (by decide +kernel)), ⟨by decide, by decide⟩, by decide, by decide +kernel, by decide +kernel⟩
abbrev mX7_stepAll : pv_Mth := (yX7_stepAll, cX7_stepAll, 5, none)
theorem mgX7_stepAll : pv_MG mX7_stepAll 2 := ⟨(pv_wg4 69 (by decide +kernel)), (pv_wg1 3 (by decide +kernel)), ⟨by decide, by decide⟩, by decide, by decide +kernel, by decide +kernel⟩
abbrev mX7_keep : pv_Mth := (yX7_keep, cX7_keep, 3, none)
theorem mgX7_keep : pv_MG mX7_keep 2 := ⟨(pv_wg4 60 (by decide +kernel)), (pv_wg1 3 (by decide +kernel)), ⟨by decide, by decide⟩, by decide, by decide +kernel, by decide +kernel⟩
abbrev mX8_init : pv_Mth := (yX8_init, cX8_init, 1, none)
theorem mgX8_init : pv_MG mX8_init 0 := ⟨(pv_wg1 152 (by decide +kernel)), (pv_wg1 5 (by decide +kernel)), ⟨by decide, by decide⟩, by decide, by decide +kernel, by decide +kernel⟩
abbrev mX8_isRow : pv_Mth := (yX8_isRow, cX8_isRow, 1, (some .boolean))
theorem mgX8_isRow : pv_MG mX8_isRow 0 := ⟨(pv_wg2 13 (by decide +kernel)), (pv_wg1 5 (by decide +kernel)), ⟨by decide, by decide⟩, by decide, by decide +kernel, by decide +kernel⟩
abbrev mX8_takeRow : pv_Mth := (yX8_takeRow, cX8_takeRow, 3, none)
theorem mgX8_takeRow : pv_MG mX8_takeRow 2 := ⟨(pv_wg1 238 (by decide +kernel)), (pv_wg1 5 (by decide +kernel)), ⟨by decide, by decide⟩, by decide, by decide +kernel, by decide +kernel⟩
abbrev mX8_takeFigure : pv_Mth := (yX8_takeFigure, cX8_takeFigure, 2, none)
theorem mgX8_takeFigure : pv_MG mX8_takeFigure 1 := ⟨(pv_wg2 63 (by decide +kernel)), (pv_wg1 5 (by decide +kernel)), ⟨by decide, by decide⟩, by decide, by decide +kernel, by decide +kernel⟩
abbrev mX8_hasPlace : pv_Mth := (yX8_hasPlace, cX8_hasPlace, 2, (some .boolean))
theorem mgX8_hasPlace : pv_MG mX8_hasPlace 1 := ⟨(pv_wg2 17 (by decide +kernel)), (pv_wg1 5 (by decide +kernel)), ⟨by decide, by decide⟩, by decide, by decide +kernel, by decide +kernel⟩
abbrev mX8_hasPart : pv_Mth := (yX8_hasPart, cX8_hasPart, 3, (some .boolean))
theorem mgX8_hasPart : pv_MG mX8_hasPart 2 := ⟨(pv_wg2 40 (by decide +kernel)), (pv_wg1 5 (by decide +kernel)), ⟨by decide, by decide⟩, by decide, by decide +kernel, by decide +kernel⟩
abbrev mX8_whole : pv_Mth := (yX8_whole, cX8_whole, 2, (some .long))
theorem mgX8_whole : pv_MG mX8_whole 1 := ⟨(pv_wg2 51 (by decide +kernel)), (pv_wg1 5 (by decide +kernel)), ⟨by decide, by decide⟩, by decide, by decide +kernel, by decide +kernel⟩
abbrev mX8_asInt : pv_Mth := (yX8_asInt, cX8_asInt, 2, (some .int))
theorem mgX8_asInt : pv_MG mX8_asInt 1 := ⟨(pv_wg3 49 (by decide +kernel)), (pv_wg1 5 (by decide +kernel)), ⟨by decide, by decide⟩, by decide, by decide +kernel, by decide +kernel⟩
abbrev mX8_put : pv_Mth := (yX8_put, cX8_put, 4, none)
theorem mgX8_put : pv_MG mX8_put 2 := ⟨(pv_wg2 21 (by decide +kernel)), (pv_wg1 5 (by decide +kernel)), ⟨by decide, by decide⟩, by decide, by decide +kernel, by decide +kernel⟩
abbrev mX8_cut : pv_Mth := (yX8_cut, cX8_cut, 3, (some .long))
theorem mgX8_cut : pv_MG mX8_cut 1 := ⟨(pv_wg2 26 (by decide +kernel)), (pv_wg1 5 (by decide +kernel)), ⟨by decide, by decide⟩, by decide, by decide +kernel, by decide +kernel⟩
abbrev mX8_open : pv_Mth := (yX8_open, cX8_open, 1, none)
theorem mgX8_open : pv_MG mX8_open 0 := ⟨(pv_wg3 37 (by decide +kernel)), (pv_wg1 5 (by decide +kernel)), ⟨by decide, by decide⟩, by decide, by decide +kernel, by decide +kernel⟩
abbrev mX8_isRead : pv_Mth := (yX8_isRead, cX8_isRead, 1, (some .boolean))
theorem mgX8_isRead : pv_MG mX8_isRead 0 := ⟨(pv_wg3 110 (by decide +kernel)), (pv_wg1 5 (by decide +kernel)), ⟨by decide, by decide⟩, by decide, by decide +kernel, by decide +kernel⟩
abbrev mX8_fits : pv_Mth := (yX8_fits, cX8_fits, 3, (some .boolean))
theorem mgX8_fits : pv_MG mX8_fits 2 := ⟨(pv_wg3 115 (by decide +kernel)), (pv_wg1 5 (by decide +kernel)), ⟨by decide, by decide⟩, by decide, by decide +kernel, by decide +kernel⟩
abbrev mX8_reads : pv_Mth := (yX8_reads, cX8_reads, 2, (some .boolean))
theorem mgX8_reads : pv_MG mX8_reads 1 := ⟨(pv_wg3 106 (by decide +kernel)), (pv_wg1 5 (by decide +kernel)), ⟨by decide, by decide⟩, by decide, by decide +kernel, by decide +kernel⟩
abbrev mX8_readsWord : pv_Mth := (yX8_readsWord, cX8_readsWord, 3, (some .boolean))
theorem mgX8_readsWord : pv_MG mX8_readsWord 1 := ⟨(pv_wg3 54 (by decide +kernel)), (pv_wg1 5 (by decide +kernel)), ⟨by decide, by decide⟩, by decide, by decide +kernel, by decide +kernel⟩
abbrev mX8_readNumber : pv_Mth := (yX8_readNumber, cX8_readNumber, 2, (some .int))
theorem mgX8_readNumber : pv_MG mX8_readNumber 0 := ⟨(pv_wg3 124 (by decide +kernel)), (pv_wg1 5 (by decide +kernel)), ⟨by decide, by decide⟩, by decide, by decide +kernel, by decide +kernel⟩
abbrev mX9_init : pv_Mth := (yX9_init, cX9_init, 6, none)
theorem mgX9_init : pv_MG mX9_init 5 := ⟨(pv_wg2 200 (by decide +kernel)), (pv_wg1 14 (by decide +kernel)), ⟨by decide, by decide⟩, by decide, by decide +kernel, by decide +kernel⟩
abbrev mX9_turns : pv_Mth := (yX9_turns, cX9_turns, 1, (some .int))
theorem mgX9_turns : pv_MG mX9_turns 0 := ⟨(pv_wg2 97 (by decide +kernel)), (pv_wg1 14 (by decide +kernel)), ⟨by decide, by decide⟩, by decide, by decide +kernel, by decide +kernel⟩
abbrev mX9_move : pv_Mth := (yX9_move, cX9_move, 2, (some .boolean))
theorem mgX9_move : pv_MG mX9_move 1 := ⟨(pv_wg3 140 (by decide +kernel)), (pv_wg1 14 (by decide +kernel)), ⟨by decide, by decide⟩, by decide, by decide +kernel, by decide +kernel⟩
abbrev mX9_saying : pv_Mth := (yX9_saying, cX9_saying, 1, (some .int))
theorem mgX9_saying : pv_MG mX9_saying 0 := ⟨(pv_wg2 86 (by decide +kernel)), (pv_wg1 14 (by decide +kernel)), ⟨by decide, by decide⟩, by decide, by decide +kernel, by decide +kernel⟩
abbrev mX9_knots : pv_Mth := (yX9_knots, cX9_knots, 2, (some .int))
theorem mgX9_knots : pv_MG mX9_knots 1 := ⟨(pv_wg5 66 (by decide +kernel)), (pv_wg1 14 (by decide +kernel)), ⟨by decide, by decide⟩, by decide, by decide +kernel, by decide +kernel⟩
abbrev mX10_init : pv_Mth := (yX10_init, cX10_init, 6, none)
theorem mgX10_init : pv_MG mX10_init 5 := ⟨(pv_wg2 176 (by decide +kernel)), (pv_wg1 12 (by decide +kernel)), ⟨by decide, by decide⟩, by decide, by decide +kernel, by decide +kernel⟩
abbrev mX10_more : pv_Mth := (yX10_more, cX10_more, 1, (some .int))
theorem mgX10_more : pv_MG mX10_more 0 := ⟨(pv_wg2 110 (by decide +kernel)), (pv_wg1 12 (by decide +kernel)), ⟨by decide, by decide⟩, by decide, by decide +kernel, by decide +kernel⟩
abbrev mX10_steps : pv_Mth := (yX10_steps, cX10_steps, 2, (some .int))
theorem mgX10_steps : pv_MG mX10_steps 1 := ⟨(pv_wg5 53 (by decide +kernel)), (pv_wg1 12 (by decide +kernel)), ⟨by decide, by decide⟩, by decide, by decide +kernel, by decide +kernel⟩
abbrev mX11_init : pv_Mth := (yX11_init, cX11_init, 2, none)
theorem mgX11_init : pv_MG mX11_init 0 := ⟨(pv_wg1 27 (by decide +kernel)), (pv_wg1 1 (by decide +kernel)), ⟨by decide, by decide⟩, by decide, by decide +kernel, by decide +kernel⟩
abbrev mX11_row : pv_Mth := (yX11_row, cX11_row, 5, (some .int))
theorem mgX11_row : pv_MG mX11_row 3 := ⟨(pv_wg1 226 (by decide +kernel)), (pv_wg1 1 (by decide +kernel)), ⟨by decide, by decide⟩, by decide, by decide +kernel, by decide +kernel⟩
abbrev mX11_set : pv_Mth := (yX11_set, cX11_set, 7, (some .int))
theorem mgX11_set : pv_MG mX11_set 3 := ⟨(pv_wg2 5 (by decide +kernel)), (pv_wg1 1 (by decide +kernel)), ⟨by decide, by decide⟩, by decide, by decide +kernel, by decide +kernel⟩
abbrev mX11_copy : pv_Mth := (yX11_copy, cX11_copy, 9, (some .int))
theorem mgX11_copy : pv_MG mX11_copy 5 := ⟨(pv_wg2 30 (by decide +kernel)), (pv_wg1 1 (by decide +kernel)), ⟨by decide, by decide⟩, by decide, by decide +kernel, by decide +kernel⟩
abbrev mX11_element : pv_Mth := (yX11_element, cX11_element, 4, (some .long))
theorem mgX11_element : pv_MG mX11_element 2 := ⟨(pv_wg2 47 (by decide +kernel)), (pv_wg1 1 (by decide +kernel)), ⟨by decide, by decide⟩, by decide, by decide +kernel, by decide +kernel⟩
abbrev mX11_show : pv_Mth := (yX11_show, cX11_show, 4, (some .int))
theorem mgX11_show : pv_MG mX11_show 2 := ⟨(pv_wg2 55 (by decide +kernel)), (pv_wg1 1 (by decide +kernel)), ⟨by decide, by decide⟩, by decide, by decide +kernel, by decide +kernel⟩
abbrev mX11_holds : pv_Mth := (yX11_holds, cX11_holds, 3, (some .int))
theorem mgX11_holds : pv_MG mX11_holds 1 := ⟨(pv_wg2 67 (by decide +kernel)), (pv_wg1 1 (by decide +kernel)), ⟨by decide, by decide⟩, by decide, by decide +kernel, by decide +kernel⟩
abbrev mX11_says : pv_Mth := (yX11_says, cX11_says, 5, (some .int))
theorem mgX11_says : pv_MG mX11_says 2 := ⟨(pv_wg2 71 (by decide +kernel)), (pv_wg1 1 (by decide +kernel)), ⟨by decide, by decide⟩, by decide, by decide +kernel, by decide +kernel⟩
abbrev mX11_figure : pv_Mth := (yX11_figure, cX11_figure, 4, (some .int))
theorem mgX11_figure : pv_MG mX11_figure 3 := ⟨(pv_wg2 120 (by decide +kernel)), (pv_wg1 1 (by decide +kernel)), ⟨by decide, by decide⟩, by decide, by decide +kernel, by decide +kernel⟩
abbrev mX11_figureOf : pv_Mth := (yX11_figureOf, cX11_figureOf, 4, (some .int))
theorem mgX11_figureOf : pv_MG mX11_figureOf 2 := ⟨(pv_wg3 3 (by decide +kernel)), (pv_wg1 1 (by decide +kernel)), ⟨by decide, by decide⟩, by decide, by decide +kernel, by decide +kernel⟩
abbrev mX11_start : pv_Mth := (yX11_start, cX11_start, 5, (some .int))
theorem mgX11_start : pv_MG mX11_start 2 := ⟨(pv_wg3 7 (by decide +kernel)), (pv_wg1 1 (by decide +kernel)), ⟨by decide, by decide⟩, by decide, by decide +kernel, by decide +kernel⟩
abbrev mX11_barn : pv_Mth := (yX11_barn, cX11_barn, 5, (some .int))
theorem mgX11_barn : pv_MG mX11_barn 1 := ⟨(pv_wg3 28 (by decide +kernel)), (pv_wg1 1 (by decide +kernel)), ⟨by decide, by decide⟩, by decide, by decide +kernel, by decide +kernel⟩
abbrev mX11_fault : pv_Mth := (yX11_fault, cX11_fault, 1, (some .int))
theorem mgX11_fault : pv_MG mX11_fault 0 := ⟨(pv_wg3 177 (by decide +kernel)), (pv_wg1 1 (by decide +kernel)), ⟨by decide, by decide⟩, by decide, by decide +kernel, by decide +kernel⟩
abbrev mX11_now : pv_Mth := (yX11_now, cX11_now, 2, (some .long))
theorem mgX11_now : pv_MG mX11_now 1 := ⟨(pv_wg3 181 (by decide +kernel)), (pv_wg1 1 (by decide +kernel)), ⟨by decide, by decide⟩, by decide, by decide +kernel, by decide +kernel⟩
abbrev mX11_stand : pv_Mth := (yX11_stand, cX11_stand, 2, (some .int))
theorem mgX11_stand : pv_MG mX11_stand 1 := ⟨(pv_wg3 190 (by decide +kernel)), (pv_wg1 1 (by decide +kernel)), ⟨by decide, by decide⟩, by decide, by decide +kernel, by decide +kernel⟩
abbrev mX11_call : pv_Mth := (yX11_call, cX11_call, 3, (some .int))
theorem mgX11_call : pv_MG mX11_call 1 := ⟨(pv_wg3 194 (by decide +kernel)), (pv_wg1 1 (by decide +kernel)), ⟨by decide, by decide⟩, by decide, by decide +kernel, by decide +kernel⟩
abbrev mX11_judge : pv_Mth := (yX11_judge, cX11_judge, 5, (some .int))
theorem mgX11_judge : pv_MG mX11_judge 2 := ⟨(pv_wg3 198 (by decide +kernel)), (pv_wg1 1 (by decide +kernel)), ⟨by decide, by decide⟩, by decide, by decide +kernel, by decide +kernel⟩
abbrev mX11_told : pv_Mth := (yX11_told, cX11_told, 5, (some .long))
theorem mgX11_told : pv_MG mX11_told 3 := ⟨(pv_wg3 214 (by decide +kernel)), (pv_wg1 1 (by decide +kernel)), ⟨by decide, by decide⟩, by decide, by decide +kernel, by decide +kernel⟩
abbrev mX11_dances : pv_Mth := (yX11_dances, cX11_dances, 4, (some .int))
theorem mgX11_dances : pv_MG mX11_dances 2 := ⟨(pv_wg3 218 (by decide +kernel)), (pv_wg1 1 (by decide +kernel)), ⟨by decide, by decide⟩, by decide, by decide +kernel, by decide +kernel⟩
abbrev mX11_repeated : pv_Mth := (yX11_repeated, cX11_repeated, 6, (some .long))
theorem mgX11_repeated : pv_MG mX11_repeated 4 := ⟨(pv_wg3 222 (by decide +kernel)), (pv_wg1 1 (by decide +kernel)), ⟨by decide, by decide⟩, by decide, by decide +kernel, by decide +kernel⟩
abbrev mX11_same : pv_Mth := (yX11_same, cX11_same, 7, (some .int))
theorem mgX11_same : pv_MG mX11_same 4 := ⟨(pv_wg4 5 (by decide +kernel)), (pv_wg1 1 (by decide +kernel)), ⟨by decide, by decide⟩, by decide, by decide +kernel, by decide +kernel⟩
abbrev mX11_undo : pv_Mth := (yX11_undo, cX11_undo, 1, (some .long))
theorem mgX11_undo : pv_MG mX11_undo 0 := ⟨(pv_wg4 13 (by decide +kernel)), (pv_wg1 1 (by decide +kernel)), ⟨by decide, by decide⟩, by decide, by decide +kernel, by decide +kernel⟩
abbrev mX11_undoes : pv_Mth := (yX11_undoes, cX11_undoes, 5, (some .int))
theorem mgX11_undoes : pv_MG mX11_undoes 1 := ⟨(pv_wg4 23 (by decide +kernel)), (pv_wg1 1 (by decide +kernel)), ⟨by decide, by decide⟩, by decide, by decide +kernel, by decide +kernel⟩
abbrev mX11_made : pv_Mth := (yX11_made, cX11_made, 9, (some .int))
theorem mgX11_made : pv_MG mX11_made 3 := ⟨(pv_wg4 27 (by decide +kernel)), (pv_wg1 1 (by decide +kernel)), ⟨by decide, by decide⟩, by decide, by decide +kernel, by decide +kernel⟩
abbrev mX11_least : pv_Mth := (yX11_least, cX11_least, 6, (some .int))
theorem mgX11_least : pv_MG mX11_least 3 := ⟨(pv_wg4 31 (by decide +kernel)), (pv_wg1 1 (by decide +kernel)), ⟨by decide, by decide⟩, by decide, by decide +kernel, by decide +kernel⟩
abbrev mX11_cheapest : pv_Mth := (yX11_cheapest, cX11_cheapest, 9, (some .int))
theorem mgX11_cheapest : pv_MG mX11_cheapest 6 := ⟨(pv_wg4 83 (by decide +kernel)), (pv_wg1 1 (by decide +kernel)), ⟨by decide, by decide⟩, by decide, by decide +kernel, by decide +kernel⟩
abbrev mX11_side : pv_Mth := (yX11_side, cX11_side, 7, (some .long))
theorem mgX11_side : pv_MG mX11_side 3 := ⟨(pv_wg4 87 (by decide +kernel)), (pv_wg1 1 (by decide +kernel)), ⟨by decide, by decide⟩, by decide, by decide +kernel, by decide +kernel⟩
abbrev mX11_over : pv_Mth := (yX11_over, cX11_over, 7, (some .long))
theorem mgX11_over : pv_MG mX11_over 3 := ⟨(pv_wg4 106 (by decide +kernel)), (pv_wg1 1 (by decide +kernel)), ⟨by decide, by decide⟩, by decide, by decide +kernel, by decide +kernel⟩
abbrev mX11_closed : pv_Mth := (yX11_closed, cX11_closed, 2, (some .int))
theorem mgX11_closed : pv_MG mX11_closed 1 := ⟨(pv_wg4 114 (by decide +kernel)), (pv_wg1 1 (by decide +kernel)), ⟨by decide, by decide⟩, by decide, by decide +kernel, by decide +kernel⟩
abbrev mX11_coloured : pv_Mth := (yX11_coloured, cX11_coloured, 2, (some .long))
theorem mgX11_coloured : pv_MG mX11_coloured 1 := ⟨(pv_wg4 118 (by decide +kernel)), (pv_wg1 1 (by decide +kernel)), ⟨by decide, by decide⟩, by decide, by decide +kernel, by decide +kernel⟩
abbrev mX11_forgot : pv_Mth := (yX11_forgot, cX11_forgot, 5, (some .int))
theorem mgX11_forgot : pv_MG mX11_forgot 2 := ⟨(pv_wg4 122 (by decide +kernel)), (pv_wg1 1 (by decide +kernel)), ⟨by decide, by decide⟩, by decide, by decide +kernel, by decide +kernel⟩
abbrev mX11_may : pv_Mth := (yX11_may, cX11_may, 7, (some .long))
theorem mgX11_may : pv_MG mX11_may 3 := ⟨(pv_wg4 163 (by decide +kernel)), (pv_wg1 1 (by decide +kernel)), ⟨by decide, by decide⟩, by decide, by decide +kernel, by decide +kernel⟩
abbrev mX11_kept : pv_Mth := (yX11_kept, cX11_kept, 4, (some .int))
theorem mgX11_kept : pv_MG mX11_kept 2 := ⟨(pv_wg4 183 (by decide +kernel)), (pv_wg1 1 (by decide +kernel)), ⟨by decide, by decide⟩, by decide, by decide +kernel, by decide +kernel⟩
abbrev mX11_lot : pv_Mth := (yX11_lot, cX11_lot, 6, (some .int))
theorem mgX11_lot : pv_MG mX11_lot 3 := ⟨(pv_wg4 196 (by decide +kernel)), (pv_wg1 1 (by decide +kernel)), ⟨by decide, by decide⟩, by decide, by decide +kernel, by decide +kernel⟩
abbrev mX11_bag : pv_Mth := (yX11_bag, cX11_bag, 12, (some .int))
theorem mgX11_bag : pv_MG mX11_bag 4 := ⟨(pv_wg4 205 (by decide +kernel)), (pv_wg1 1 (by decide +kernel)), ⟨by decide, by decide⟩, by decide, by decide +kernel, by decide +kernel⟩
abbrev mX11_frees : pv_Mth := (yX11_frees, cX11_frees, 3, (some .int))
theorem mgX11_frees : pv_MG mX11_frees 1 := ⟨(pv_wg4 209 (by decide +kernel)), (pv_wg1 1 (by decide +kernel)), ⟨by decide, by decide⟩, by decide, by decide +kernel, by decide +kernel⟩
abbrev mX11_draws : pv_Mth := (yX11_draws, cX11_draws, 3, (some .int))
theorem mgX11_draws : pv_MG mX11_draws 1 := ⟨(pv_wg4 222 (by decide +kernel)), (pv_wg1 1 (by decide +kernel)), ⟨by decide, by decide⟩, by decide, by decide +kernel, by decide +kernel⟩
abbrev mX11_seed : pv_Mth := (yX11_seed, cX11_seed, 3, (some .int))
theorem mgX11_seed : pv_MG mX11_seed 1 := ⟨(pv_wg4 231 (by decide +kernel)), (pv_wg1 1 (by decide +kernel)), ⟨by decide, by decide⟩, by decide, by decide +kernel, by decide +kernel⟩
abbrev mX11_act : pv_Mth := (yX11_act, cX11_act, 5, (some .int))
theorem mgX11_act : pv_MG mX11_act 3 := ⟨(pv_wg4 235 (by decide +kernel)), (pv_wg1 1 (by decide +kernel)), ⟨by decide, by decide⟩, by decide, by decide +kernel, by decide +kernel⟩
abbrev mX11_trace : pv_Mth := (yX11_trace, cX11_trace, 2, (some .int))
theorem mgX11_trace : pv_MG mX11_trace 1 := ⟨(pv_wg5 91 (by decide +kernel)), (pv_wg1 1 (by decide +kernel)), ⟨by decide, by decide⟩, by decide, by decide +kernel, by decide +kernel⟩
abbrev mX11_image : pv_Mth := (yX11_image, cX11_image, 1, (some .int))
theorem mgX11_image : pv_MG mX11_image 0 := ⟨(pv_wg5 95 (by decide +kernel)), (pv_wg1 1 (by decide +kernel)), ⟨by decide, by decide⟩, by decide, by decide +kernel, by decide +kernel⟩
abbrev mX11_restore : pv_Mth := (yX11_restore, cX11_restore, 3, (some .int))
theorem mgX11_restore : pv_MG mX11_restore 0 := ⟨(pv_wg5 99 (by decide +kernel)), (pv_wg1 1 (by decide +kernel)), ⟨by decide, by decide⟩, by decide, by decide +kernel, by decide +kernel⟩
abbrev mX11_status : pv_Mth := (yX11_status, cX11_status, 2, (some .int))
theorem mgX11_status : pv_MG mX11_status 1 := ⟨(pv_wg5 103 (by decide +kernel)), (pv_wg1 1 (by decide +kernel)), ⟨by decide, by decide⟩, by decide, by decide +kernel, by decide +kernel⟩
abbrev mX11_refuse : pv_Mth := (yX11_refuse, cX11_refuse, 2, (some .int))
theorem mgX11_refuse : pv_MG mX11_refuse 1 := ⟨(pv_wg1 234 (by decide +kernel)), (pv_wg1 1 (by decide +kernel)), ⟨by decide, by decide⟩, by decide, by decide +kernel, by decide +kernel⟩
abbrev mX11_refuseFar : pv_Mth := (yX11_refuseFar, cX11_refuseFar, 2, (some .long))
theorem mgX11_refuseFar : pv_MG mX11_refuseFar 1 := ⟨(pv_wg3 185 (by decide +kernel)), (pv_wg1 1 (by decide +kernel)), ⟨by decide, by decide⟩, by decide, by decide +kernel, by decide +kernel⟩
abbrev mX11_refuseTen : pv_Mth := (yX11_refuseTen, cX11_refuseTen, 2, (some .int))
theorem mgX11_refuseTen : pv_MG mX11_refuseTen 1 := ⟨(pv_wg4 35 (by decide +kernel)), (pv_wg1 1 (by decide +kernel)), ⟨by decide, by decide⟩, by decide, by decide +kernel, by decide +kernel⟩
abbrev mX11_firstOf : pv_Mth := (yX11_firstOf, cX11_firstOf, 2, (some .int))
theorem mgX11_firstOf : pv_MG mX11_firstOf 2 := ⟨(pv_wg2 33 (by decide +kernel)), (pv_wg1 1 (by decide +kernel)), ⟨by decide, by decide⟩, by decide, by decide +kernel, by decide +kernel⟩
abbrev mX11_shelfAt : pv_Mth := (yX11_shelfAt, cX11_shelfAt, 2, (some (.object "TwoRopes$Shelf")))
theorem mgX11_shelfAt : pv_MG mX11_shelfAt 1 := ⟨(pv_wg1 230 (by decide +kernel)), (pv_wg1 1 (by decide +kernel)), ⟨by decide, by decide⟩, by decide, by decide +kernel, by decide +kernel⟩
abbrev mX11_figureAt : pv_Mth := (yX11_figureAt, cX11_figureAt, 3, (some (.object "TwoRopes$Dance")))
theorem mgX11_figureAt : pv_MG mX11_figureAt 2 := ⟨(pv_wg2 59 (by decide +kernel)), (pv_wg1 1 (by decide +kernel)), ⟨by decide, by decide⟩, by decide, by decide +kernel, by decide +kernel⟩
abbrev mX11_noRow : pv_Mth := (yX11_noRow, cX11_noRow, 3, (some .int))
theorem mgX11_noRow : pv_MG mX11_noRow 1 := ⟨(pv_wg2 9 (by decide +kernel)), (pv_wg1 1 (by decide +kernel)), ⟨by decide, by decide⟩, by decide, by decide +kernel, by decide +kernel⟩
abbrev mX11_noPart : pv_Mth := (yX11_noPart, cX11_noPart, 5, (some .int))
theorem mgX11_noPart : pv_MG mX11_noPart 2 := ⟨(pv_wg3 202 (by decide +kernel)), (pv_wg1 1 (by decide +kernel)), ⟨by decide, by decide⟩, by decide, by decide +kernel, by decide +kernel⟩
abbrev mX11_isKind : pv_Mth := (yX11_isKind, cX11_isKind, 1, (some .boolean))
theorem mgX11_isKind : pv_MG mX11_isKind 1 := ⟨(pv_wg2 74 (by decide +kernel)), (pv_wg1 1 (by decide +kernel)), ⟨by decide, by decide⟩, by decide, by decide +kernel, by decide +kernel⟩
abbrev mX11_isA : pv_Mth := (yX11_isA, cX11_isA, 1, (some .boolean))
theorem mgX11_isA : pv_MG mX11_isA 1 := ⟨(pv_wg2 123 (by decide +kernel)), (pv_wg1 1 (by decide +kernel)), ⟨by decide, by decide⟩, by decide, by decide +kernel, by decide +kernel⟩
abbrev mX11_isCost : pv_Mth := (yX11_isCost, cX11_isCost, 1, (some .boolean))
theorem mgX11_isCost : pv_MG mX11_isCost 1 := ⟨(pv_wg2 126 (by decide +kernel)), (pv_wg1 1 (by decide +kernel)), ⟨by decide, by decide⟩, by decide, by decide +kernel, by decide +kernel⟩
abbrev mX11_isUnder : pv_Mth := (yX11_isUnder, cX11_isUnder, 4, (some .boolean))
theorem mgX11_isUnder : pv_MG mX11_isUnder 2 := ⟨(pv_wg2 77 (by decide +kernel)), (pv_wg1 1 (by decide +kernel)), ⟨by decide, by decide⟩, by decide, by decide +kernel, by decide +kernel⟩
abbrev mX11_isNumber : pv_Mth := (yX11_isNumber, cX11_isNumber, 4, (some .boolean))
theorem mgX11_isNumber : pv_MG mX11_isNumber 2 := ⟨(pv_wg3 10 (by decide +kernel)), (pv_wg1 1 (by decide +kernel)), ⟨by decide, by decide⟩, by decide, by decide +kernel, by decide +kernel⟩
abbrev mX11_isWide : pv_Mth := (yX11_isWide, cX11_isWide, 6, (some .boolean))
theorem mgX11_isWide : pv_MG mX11_isWide 3 := ⟨(pv_wg3 14 (by decide +kernel)), (pv_wg1 1 (by decide +kernel)), ⟨by decide, by decide⟩, by decide, by decide +kernel, by decide +kernel⟩
abbrev mX11_divisor : pv_Mth := (yX11_divisor, cX11_divisor, 11, (some .long))
theorem mgX11_divisor : pv_MG mX11_divisor 2 := ⟨(pv_wg3 20 (by decide +kernel)), (pv_wg1 1 (by decide +kernel)), ⟨by decide, by decide⟩, by decide, by decide +kernel, by decide +kernel⟩
abbrev mX11_stepP : pv_Mth := (yX11_stepP, cX11_stepP, 5, (some .long))
theorem mgX11_stepP : pv_MG mX11_stepP 3 := ⟨(pv_wg3 147 (by decide +kernel)), (pv_wg1 1 (by decide +kernel)), ⟨by decide, by decide⟩, by decide, by decide +kernel, by decide +kernel⟩
abbrev mX11_stepQ : pv_Mth := (yX11_stepQ, cX11_stepQ, 5, (some .long))
theorem mgX11_stepQ : pv_MG mX11_stepQ 3 := ⟨(pv_wg3 150 (by decide +kernel)), (pv_wg1 1 (by decide +kernel)), ⟨by decide, by decide⟩, by decide, by decide +kernel, by decide +kernel⟩
abbrev mX11_compare : pv_Mth := (yX11_compare, cX11_compare, 26, (some .int))
theorem mgX11_compare : pv_MG mX11_compare 4 := ⟨(pv_wg4 170 (by decide +kernel)), (pv_wg1 1 (by decide +kernel)), ⟨by decide, by decide⟩, by decide, by decide +kernel, by decide +kernel⟩
abbrev mX11_undoStep : pv_Mth := (yX11_undoStep, cX11_undoStep, 2, (some .int))
theorem mgX11_undoStep : pv_MG mX11_undoStep 1 := ⟨(pv_wg4 212 (by decide +kernel)), (pv_wg1 1 (by decide +kernel)), ⟨by decide, by decide⟩, by decide, by decide +kernel, by decide +kernel⟩
abbrev mX11_undoing : pv_Mth := (yX11_undoing, cX11_undoing, 21, (some .long))
theorem mgX11_undoing : pv_MG mX11_undoing 3 := ⟨(pv_wg4 17 (by decide +kernel)), (pv_wg1 1 (by decide +kernel)), ⟨by decide, by decide⟩, by decide, by decide +kernel, by decide +kernel⟩
abbrev mX11_foundStep : pv_Mth := (yX11_foundStep, cX11_foundStep, 2, (some .int))
theorem mgX11_foundStep : pv_MG mX11_foundStep 1 := ⟨(pv_wg4 79 (by decide +kernel)), (pv_wg1 1 (by decide +kernel)), ⟨by decide, by decide⟩, by decide, by decide +kernel, by decide +kernel⟩
abbrev mX11_notJoined : pv_Mth := (yX11_notJoined, cX11_notJoined, 6, (some .int))
theorem mgX11_notJoined : pv_MG mX11_notJoined 3 := ⟨(pv_wg4 91 (by decide +kernel)), (pv_wg1 1 (by decide +kernel)), ⟨by decide, by decide⟩, by decide, by decide +kernel, by decide +kernel⟩
abbrev mX11_joined : pv_Mth := (yX11_joined, cX11_joined, 2, (some .long))
theorem mgX11_joined : pv_MG mX11_joined 1 := ⟨(pv_wg4 102 (by decide +kernel)), (pv_wg1 1 (by decide +kernel)), ⟨by decide, by decide⟩, by decide, by decide +kernel, by decide +kernel⟩
abbrev mX11_addFigure : pv_Mth := (yX11_addFigure, cX11_addFigure, 6, none)
theorem mgX11_addFigure : pv_MG mX11_addFigure 4 := ⟨(pv_wg2 130 (by decide +kernel)), (pv_wg1 1 (by decide +kernel)), ⟨by decide, by decide⟩, by decide, by decide +kernel, by decide +kernel⟩
abbrev mX11_newFigure : pv_Mth := (yX11_newFigure, cX11_newFigure, 5, (some (.object "TwoRopes$Dance")))
theorem mgX11_newFigure : pv_MG mX11_newFigure 4 := ⟨(pv_wg2 134 (by decide +kernel)), (pv_wg1 1 (by decide +kernel)), ⟨by decide, by decide⟩, by decide, by decide +kernel, by decide +kernel⟩
abbrev mX11_areFigures : pv_Mth := (yX11_areFigures, cX11_areFigures, 6, (some .boolean))
theorem mgX11_areFigures : pv_MG mX11_areFigures 2 := ⟨(pv_wg3 226 (by decide +kernel)), (pv_wg1 1 (by decide +kernel)), ⟨by decide, by decide⟩, by decide, by decide +kernel, by decide +kernel⟩
abbrev mX11_tryRow : pv_Mth := (yX11_tryRow, cX11_tryRow, 4, (some .int))
theorem mgX11_tryRow : pv_MG mX11_tryRow 3 := ⟨(pv_wg3 206 (by decide +kernel)), (pv_wg1 1 (by decide +kernel)), ⟨by decide, by decide⟩, by decide, by decide +kernel, by decide +kernel⟩
abbrev mX11_goOn : pv_Mth := (yX11_goOn, cX11_goOn, 8, (some .int))
theorem mgX11_goOn : pv_MG mX11_goOn 4 := ⟨(pv_wg3 210 (by decide +kernel)), (pv_wg1 1 (by decide +kernel)), ⟨by decide, by decide⟩, by decide, by decide +kernel, by decide +kernel⟩
abbrev mX11_tryOften : pv_Mth := (yX11_tryOften, cX11_tryOften, 7, (some .boolean))
theorem mgX11_tryOften : pv_MG mX11_tryOften 3 := ⟨(pv_wg3 230 (by decide +kernel)), (pv_wg1 1 (by decide +kernel)), ⟨by decide, by decide⟩, by decide, by decide +kernel, by decide +kernel⟩
abbrev mX11_signOfStraight : pv_Mth := (yX11_signOfStraight, cX11_signOfStraight, 6, (some .int))
theorem mgX11_signOfStraight : pv_MG mX11_signOfStraight 0 := ⟨(pv_wg3 234 (by decide +kernel)), (pv_wg1 1 (by decide +kernel)), ⟨by decide, by decide⟩, by decide, by decide +kernel, by decide +kernel⟩
abbrev mX11_straightOn : pv_Mth := (yX11_straightOn, cX11_straightOn, 5, (some .long))
theorem mgX11_straightOn : pv_MG mX11_straightOn 3 := ⟨(pv_wg3 237 (by decide +kernel)), (pv_wg1 1 (by decide +kernel)), ⟨by decide, by decide⟩, by decide, by decide +kernel, by decide +kernel⟩
abbrev mX11_noForgotten : pv_Mth := (yX11_noForgotten, cX11_noForgotten, 7, (some .int))
theorem mgX11_noForgotten : pv_MG mX11_noForgotten 2 := ⟨(pv_wg4 126 (by decide +kernel)), (pv_wg1 1 (by decide +kernel)), ⟨by decide, by decide⟩, by decide, by decide +kernel, by decide +kernel⟩
abbrev mX11_forget : pv_Mth := (yX11_forget, cX11_forget, 9, (some (.object "TwoRopes$Crowd")))
theorem mgX11_forget : pv_MG mX11_forget 2 := ⟨(pv_wg4 130 (by decide +kernel)), (pv_wg1 1 (by decide +kernel)), ⟨by decide, by decide⟩, by decide, by decide +kernel, by decide +kernel⟩
abbrev mX11_rowsOf : pv_Mth := (yX11_rowsOf, cX11_rowsOf, 8, (some (.object "TwoRopes$Crowd")))
theorem mgX11_rowsOf : pv_MG mX11_rowsOf 2 := ⟨(pv_wg4 188 (by decide +kernel)), (pv_wg1 1 (by decide +kernel)), ⟨by decide, by decide⟩, by decide, by decide +kernel, by decide +kernel⟩
abbrev mX11_readItems : pv_Mth := (yX11_readItems, cX11_readItems, 3, (some .int))
theorem mgX11_readItems : pv_MG mX11_readItems 1 := ⟨(pv_wg3 41 (by decide +kernel)), (pv_wg1 1 (by decide +kernel)), ⟨by decide, by decide⟩, by decide, by decide +kernel, by decide +kernel⟩
abbrev mX11_readItem : pv_Mth := (yX11_readItem, cX11_readItem, 3, (some .boolean))
theorem mgX11_readItem : pv_MG mX11_readItem 1 := ⟨(pv_wg3 45 (by decide +kernel)), (pv_wg1 1 (by decide +kernel)), ⟨by decide, by decide⟩, by decide, by decide +kernel, by decide +kernel⟩
abbrev mX11_readFigure : pv_Mth := (yX11_readFigure, cX11_readFigure, 5, (some .boolean))
theorem mgX11_readFigure : pv_MG mX11_readFigure 1 := ⟨(pv_wg3 120 (by decide +kernel)), (pv_wg1 1 (by decide +kernel)), ⟨by decide, by decide⟩, by decide, by decide +kernel, by decide +kernel⟩
abbrev mX11_readCall : pv_Mth := (yX11_readCall, cX11_readCall, 3, (some .boolean))
theorem mgX11_readCall : pv_MG mX11_readCall 1 := ⟨(pv_wg3 129 (by decide +kernel)), (pv_wg1 1 (by decide +kernel)), ⟨by decide, by decide⟩, by decide, by decide +kernel, by decide +kernel⟩
abbrev mX11_readStart : pv_Mth := (yX11_readStart, cX11_readStart, 4, (some .boolean))
theorem mgX11_readStart : pv_MG mX11_readStart 1 := ⟨(pv_wg3 170 (by decide +kernel)), (pv_wg1 1 (by decide +kernel)), ⟨by decide, by decide⟩, by decide, by decide +kernel, by decide +kernel⟩
abbrev mX12_init : pv_Mth := (yX12_init, cX12_init, 2, none)
theorem mgX12_init : pv_MG mX12_init 0 := ⟨(pv_wg5 108 (by decide +kernel)), (pv_wg1 6 (by decide +kernel)), ⟨by decide, by decide⟩, by decide, by decide +kernel, by decide +kernel⟩
abbrev mX12_no : pv_Mth := (yX12_no, cX12_no, 2, (some .int))
theorem mgX12_no : pv_MG mX12_no 1 := ⟨(pv_wg6 65 (by decide +kernel)), (pv_wg1 6 (by decide +kernel)), ⟨by decide, by decide⟩, by decide, by decide +kernel, by decide +kernel⟩
abbrev mX12_noTen : pv_Mth := (yX12_noTen, cX12_noTen, 2, (some .int))
theorem mgX12_noTen : pv_MG mX12_noTen 1 := ⟨(pv_wg7 55 (by decide +kernel)), (pv_wg1 6 (by decide +kernel)), ⟨by decide, by decide⟩, by decide, by decide +kernel, by decide +kernel⟩
abbrev mX12_noLow : pv_Mth := (yX12_noLow, cX12_noLow, 2, (some .long))
theorem mgX12_noLow : pv_MG mX12_noLow 1 := ⟨(pv_wg6 219 (by decide +kernel)), (pv_wg1 6 (by decide +kernel)), ⟨by decide, by decide⟩, by decide, by decide +kernel, by decide +kernel⟩
abbrev mX12_isShelf : pv_Mth := (yX12_isShelf, cX12_isShelf, 2, (some .boolean))
theorem mgX12_isShelf : pv_MG mX12_isShelf 1 := ⟨(pv_wg6 61 (by decide +kernel)), (pv_wg1 6 (by decide +kernel)), ⟨by decide, by decide⟩, by decide, by decide +kernel, by decide +kernel⟩
abbrev mX12_isFigure : pv_Mth := (yX12_isFigure, cX12_isFigure, 2, (some .boolean))
theorem mgX12_isFigure : pv_MG mX12_isFigure 1 := ⟨(pv_wg6 85 (by decide +kernel)), (pv_wg1 6 (by decide +kernel)), ⟨by decide, by decide⟩, by decide, by decide +kernel, by decide +kernel⟩
abbrev mX12_row : pv_Mth := (yX12_row, cX12_row, 5, (some .int))
theorem mgX12_row : pv_MG mX12_row 3 := ⟨(pv_wg6 57 (by decide +kernel)), (pv_wg1 6 (by decide +kernel)), ⟨by decide, by decide⟩, by decide, by decide +kernel, by decide +kernel⟩
abbrev mX12_set : pv_Mth := (yX12_set, cX12_set, 5, (some .int))
theorem mgX12_set : pv_MG mX12_set 3 := ⟨(pv_wg6 69 (by decide +kernel)), (pv_wg1 6 (by decide +kernel)), ⟨by decide, by decide⟩, by decide, by decide +kernel, by decide +kernel⟩
abbrev mX12_copy : pv_Mth := (yX12_copy, cX12_copy, 7, (some .int))
theorem mgX12_copy : pv_MG mX12_copy 5 := ⟨(pv_wg6 73 (by decide +kernel)), (pv_wg1 6 (by decide +kernel)), ⟨by decide, by decide⟩, by decide, by decide +kernel, by decide +kernel⟩
abbrev mX12_element : pv_Mth := (yX12_element, cX12_element, 3, (some .long))
theorem mgX12_element : pv_MG mX12_element 2 := ⟨(pv_wg6 77 (by decide +kernel)), (pv_wg1 6 (by decide +kernel)), ⟨by decide, by decide⟩, by decide, by decide +kernel, by decide +kernel⟩
abbrev mX12_show : pv_Mth := (yX12_show, cX12_show, 3, (some .int))
theorem mgX12_show : pv_MG mX12_show 2 := ⟨(pv_wg6 81 (by decide +kernel)), (pv_wg1 6 (by decide +kernel)), ⟨by decide, by decide⟩, by decide, by decide +kernel, by decide +kernel⟩
abbrev mX12_holds : pv_Mth := (yX12_holds, cX12_holds, 2, (some .int))
theorem mgX12_holds : pv_MG mX12_holds 1 := ⟨(pv_wg6 89 (by decide +kernel)), (pv_wg1 6 (by decide +kernel)), ⟨by decide, by decide⟩, by decide, by decide +kernel, by decide +kernel⟩
abbrev mX12_isChange : pv_Mth := (yX12_isChange, cX12_isChange, 2, (some .boolean))
theorem mgX12_isChange : pv_MG mX12_isChange 1 := ⟨(pv_wg6 97 (by decide +kernel)), (pv_wg1 6 (by decide +kernel)), ⟨by decide, by decide⟩, by decide, by decide +kernel, by decide +kernel⟩
abbrev mX12_isTurn : pv_Mth := (yX12_isTurn, cX12_isTurn, 2, (some .boolean))
theorem mgX12_isTurn : pv_MG mX12_isTurn 1 := ⟨(pv_wg6 101 (by decide +kernel)), (pv_wg1 6 (by decide +kernel)), ⟨by decide, by decide⟩, by decide, by decide +kernel, by decide +kernel⟩
abbrev mX12_says : pv_Mth := (yX12_says, cX12_says, 5, (some .int))
theorem mgX12_says : pv_MG mX12_says 2 := ⟨(pv_wg6 93 (by decide +kernel)), (pv_wg1 6 (by decide +kernel)), ⟨by decide, by decide⟩, by decide, by decide +kernel, by decide +kernel⟩
abbrev mX12_wants : pv_Mth := (yX12_wants, cX12_wants, 2, (some .int))
theorem mgX12_wants : pv_MG mX12_wants 1 := ⟨(pv_wg6 135 (by decide +kernel)), (pv_wg1 6 (by decide +kernel)), ⟨by decide, by decide⟩, by decide, by decide +kernel, by decide +kernel⟩
abbrev mX12_intAt : pv_Mth := (yX12_intAt, cX12_intAt, 3, (some .int))
theorem mgX12_intAt : pv_MG mX12_intAt 2 := ⟨(pv_wg7 8 (by decide +kernel)), (pv_wg1 6 (by decide +kernel)), ⟨by decide, by decide⟩, by decide, by decide +kernel, by decide +kernel⟩
abbrev mX12_bars : pv_Mth := (yX12_bars, cX12_bars, 4, (some .int))
theorem mgX12_bars : pv_MG mX12_bars 2 := ⟨(pv_wg6 236 (by decide +kernel)), (pv_wg1 6 (by decide +kernel)), ⟨by decide, by decide⟩, by decide, by decide +kernel, by decide +kernel⟩
abbrev mX12_adds : pv_Mth := (yX12_adds, cX12_adds, 4, (some .int))
theorem mgX12_adds : pv_MG mX12_adds 3 := ⟨(pv_wg6 109 (by decide +kernel)), (pv_wg1 6 (by decide +kernel)), ⟨by decide, by decide⟩, by decide, by decide +kernel, by decide +kernel⟩
abbrev mX12_figure : pv_Mth := (yX12_figure, cX12_figure, 4, (some .int))
theorem mgX12_figure : pv_MG mX12_figure 3 := ⟨(pv_wg6 105 (by decide +kernel)), (pv_wg1 6 (by decide +kernel)), ⟨by decide, by decide⟩, by decide, by decide +kernel, by decide +kernel⟩
abbrev mX12_figureOf : pv_Mth := (yX12_figureOf, cX12_figureOf, 3, (some .int))
theorem mgX12_figureOf : pv_MG mX12_figureOf 2 := ⟨(pv_wg6 113 (by decide +kernel)), (pv_wg1 6 (by decide +kernel)), ⟨by decide, by decide⟩, by decide, by decide +kernel, by decide +kernel⟩
abbrev mX12_divides : pv_Mth := (yX12_divides, cX12_divides, 11, (some .long))
theorem mgX12_divides : pv_MG mX12_divides 2 := ⟨(pv_wg6 127 (by decide +kernel)), (pv_wg1 6 (by decide +kernel)), ⟨by decide, by decide⟩, by decide, by decide +kernel, by decide +kernel⟩
abbrev mX12_isNumber : pv_Mth := (yX12_isNumber, cX12_isNumber, 5, (some .boolean))
theorem mgX12_isNumber : pv_MG mX12_isNumber 2 := ⟨(pv_wg6 121 (by decide +kernel)), (pv_wg1 6 (by decide +kernel)), ⟨by decide, by decide⟩, by decide, by decide +kernel, by decide +kernel⟩
abbrev mX12_start : pv_Mth := (yX12_start, cX12_start, 5, (some .int))
theorem mgX12_start : pv_MG mX12_start 2 := ⟨(pv_wg6 117 (by decide +kernel)), (pv_wg1 6 (by decide +kernel)), ⟨by decide, by decide⟩, by decide, by decide +kernel, by decide +kernel⟩
abbrev mX12_begins : pv_Mth := (yX12_begins, cX12_begins, 2, none)
theorem mgX12_begins : pv_MG mX12_begins 0 := ⟨(pv_wg6 183 (by decide +kernel)), (pv_wg1 6 (by decide +kernel)), ⟨by decide, by decide⟩, by decide, by decide +kernel, by decide +kernel⟩
abbrev mX12_truly : pv_Mth := (yX12_truly, cX12_truly, 2, none)
theorem mgX12_truly : pv_MG mX12_truly 0 := ⟨(pv_wg6 207 (by decide +kernel)), (pv_wg1 6 (by decide +kernel)), ⟨by decide, by decide⟩, by decide, by decide +kernel, by decide +kernel⟩
abbrev mX12_isRoom : pv_Mth := (yX12_isRoom, cX12_isRoom, 1, (some .boolean))
theorem mgX12_isRoom : pv_MG mX12_isRoom 0 := ⟨(pv_wg6 203 (by decide +kernel)), (pv_wg1 6 (by decide +kernel)), ⟨by decide, by decide⟩, by decide, by decide +kernel, by decide +kernel⟩
abbrev mX12_more : pv_Mth := (yX12_more, cX12_more, 3, none)
theorem mgX12_more : pv_MG mX12_more 1 := ⟨(pv_wg6 191 (by decide +kernel)), (pv_wg1 6 (by decide +kernel)), ⟨by decide, by decide⟩, by decide, by decide +kernel, by decide +kernel⟩
abbrev mX12_turns : pv_Mth := (yX12_turns, cX12_turns, 3, none)
theorem mgX12_turns : pv_MG mX12_turns 0 := ⟨(pv_wg6 195 (by decide +kernel)), (pv_wg1 6 (by decide +kernel)), ⟨by decide, by decide⟩, by decide, by decide +kernel, by decide +kernel⟩
abbrev mX12_goesOn : pv_Mth := (yX12_goesOn, cX12_goesOn, 6, none)
theorem mgX12_goesOn : pv_MG mX12_goesOn 1 := ⟨(pv_wg6 199 (by decide +kernel)), (pv_wg1 6 (by decide +kernel)), ⟨by decide, by decide⟩, by decide, by decide +kernel, by decide +kernel⟩
abbrev mX12_step : pv_Mth := (yX12_step, cX12_step, 2, none)
theorem mgX12_step : pv_MG mX12_step 1 := ⟨(pv_wg7 67 (by decide +kernel)), (pv_wg1 6 (by decide +kernel)), ⟨by decide, by decide⟩, by decide, by decide +kernel, by decide +kernel⟩
abbrev mX12_figured : pv_Mth := (yX12_figured, cX12_figured, 4, none)
theorem mgX12_figured : pv_MG mX12_figured 1 := ⟨(pv_wg6 187 (by decide +kernel)), (pv_wg1 6 (by decide +kernel)), ⟨by decide, by decide⟩, by decide, by decide +kernel, by decide +kernel⟩
abbrev mX12_wrong : pv_Mth := (yX12_wrong, cX12_wrong, 2, (some .boolean))
theorem mgX12_wrong : pv_MG mX12_wrong 1 := ⟨(pv_wg6 159 (by decide +kernel)), (pv_wg1 6 (by decide +kernel)), ⟨by decide, by decide⟩, by decide, by decide +kernel, by decide +kernel⟩
abbrev mX12_word : pv_Mth := (yX12_word, cX12_word, 6, (some .int))
theorem mgX12_word : pv_MG mX12_word 0 := ⟨(pv_wg6 163 (by decide +kernel)), (pv_wg1 6 (by decide +kernel)), ⟨by decide, by decide⟩, by decide, by decide +kernel, by decide +kernel⟩
abbrev mX12_isDigit : pv_Mth := (yX12_isDigit, cX12_isDigit, 1, (some .boolean))
theorem mgX12_isDigit : pv_MG mX12_isDigit 0 := ⟨(pv_wg6 175 (by decide +kernel)), (pv_wg1 6 (by decide +kernel)), ⟨by decide, by decide⟩, by decide, by decide +kernel, by decide +kernel⟩
abbrev mX12_number : pv_Mth := (yX12_number, cX12_number, 5, (some .boolean))
theorem mgX12_number : pv_MG mX12_number 2 := ⟨(pv_wg6 171 (by decide +kernel)), (pv_wg1 6 (by decide +kernel)), ⟨by decide, by decide⟩, by decide, by decide +kernel, by decide +kernel⟩
abbrev mX12_top : pv_Mth := (yX12_top, cX12_top, 3, (some .int))
theorem mgX12_top : pv_MG mX12_top 2 := ⟨(pv_wg6 167 (by decide +kernel)), (pv_wg1 6 (by decide +kernel)), ⟨by decide, by decide⟩, by decide, by decide +kernel, by decide +kernel⟩
abbrev mX12_isFull : pv_Mth := (yX12_isFull, cX12_isFull, 2, (some .boolean))
theorem mgX12_isFull : pv_MG mX12_isFull 1 := ⟨(pv_wg6 155 (by decide +kernel)), (pv_wg1 6 (by decide +kernel)), ⟨by decide, by decide⟩, by decide, by decide +kernel, by decide +kernel⟩
abbrev mX12_isWordAt : pv_Mth := (yX12_isWordAt, cX12_isWordAt, 4, (some .boolean))
theorem mgX12_isWordAt : pv_MG mX12_isWordAt 1 := ⟨(pv_wg6 151 (by decide +kernel)), (pv_wg1 6 (by decide +kernel)), ⟨by decide, by decide⟩, by decide, by decide +kernel, by decide +kernel⟩
abbrev mX12_item : pv_Mth := (yX12_item, cX12_item, 6, (some .boolean))
theorem mgX12_item : pv_MG mX12_item 0 := ⟨(pv_wg6 147 (by decide +kernel)), (pv_wg1 6 (by decide +kernel)), ⟨by decide, by decide⟩, by decide, by decide +kernel, by decide +kernel⟩
abbrev mX12_keeps : pv_Mth := (yX12_keeps, cX12_keeps, 7, (some .int))
theorem mgX12_keeps : pv_MG mX12_keeps 5 := ⟨(pv_wg6 143 (by decide +kernel)), (pv_wg1 6 (by decide +kernel)), ⟨by decide, by decide⟩, by decide, by decide +kernel, by decide +kernel⟩
abbrev mX12_all : pv_Mth := (yX12_all, cX12_all, 5, none)
theorem mgX12_all : pv_MG mX12_all 3 := ⟨(pv_wg6 139 (by decide +kernel)), (pv_wg1 6 (by decide +kernel)), ⟨by decide, by decide⟩, by decide, by decide +kernel, by decide +kernel⟩
abbrev mX12_barn : pv_Mth := (yX12_barn, cX12_barn, 5, (some .int))
theorem mgX12_barn : pv_MG mX12_barn 1 := ⟨(pv_wg6 131 (by decide +kernel)), (pv_wg1 6 (by decide +kernel)), ⟨by decide, by decide⟩, by decide, by decide +kernel, by decide +kernel⟩
abbrev mX12_fault : pv_Mth := (yX12_fault, cX12_fault, 1, (some .int))
theorem mgX12_fault : pv_MG mX12_fault 0 := ⟨(pv_wg6 211 (by decide +kernel)), (pv_wg1 6 (by decide +kernel)), ⟨by decide, by decide⟩, by decide, by decide +kernel, by decide +kernel⟩
abbrev mX12_now : pv_Mth := (yX12_now, cX12_now, 2, (some .long))
theorem mgX12_now : pv_MG mX12_now 1 := ⟨(pv_wg6 215 (by decide +kernel)), (pv_wg1 6 (by decide +kernel)), ⟨by decide, by decide⟩, by decide, by decide +kernel, by decide +kernel⟩
abbrev mX12_stand : pv_Mth := (yX12_stand, cX12_stand, 2, (some .int))
theorem mgX12_stand : pv_MG mX12_stand 1 := ⟨(pv_wg6 224 (by decide +kernel)), (pv_wg1 6 (by decide +kernel)), ⟨by decide, by decide⟩, by decide, by decide +kernel, by decide +kernel⟩
abbrev mX12_calls : pv_Mth := (yX12_calls, cX12_calls, 2, (some .boolean))
theorem mgX12_calls : pv_MG mX12_calls 1 := ⟨(pv_wg6 179 (by decide +kernel)), (pv_wg1 6 (by decide +kernel)), ⟨by decide, by decide⟩, by decide, by decide +kernel, by decide +kernel⟩
abbrev mX12_call : pv_Mth := (yX12_call, cX12_call, 2, (some .int))
theorem mgX12_call : pv_MG mX12_call 1 := ⟨(pv_wg6 228 (by decide +kernel)), (pv_wg1 6 (by decide +kernel)), ⟨by decide, by decide⟩, by decide, by decide +kernel, by decide +kernel⟩
abbrev mX12_led : pv_Mth := (yX12_led, cX12_led, 5, (some .boolean))
theorem mgX12_led : pv_MG mX12_led 2 := ⟨(pv_wg7 4 (by decide +kernel)), (pv_wg1 6 (by decide +kernel)), ⟨by decide, by decide⟩, by decide, by decide +kernel, by decide +kernel⟩
abbrev mX12_danced : pv_Mth := (yX12_danced, cX12_danced, 3, (some .boolean))
theorem mgX12_danced : pv_MG mX12_danced 2 := ⟨(pv_wg7 0 (by decide +kernel)), (pv_wg1 6 (by decide +kernel)), ⟨by decide, by decide⟩, by decide, by decide +kernel, by decide +kernel⟩
abbrev mX12_judge : pv_Mth := (yX12_judge, cX12_judge, 4, (some .int))
theorem mgX12_judge : pv_MG mX12_judge 2 := ⟨(pv_wg6 232 (by decide +kernel)), (pv_wg1 6 (by decide +kernel)), ⟨by decide, by decide⟩, by decide, by decide +kernel, by decide +kernel⟩
abbrev mX12_told : pv_Mth := (yX12_told, cX12_told, 5, (some .long))
theorem mgX12_told : pv_MG mX12_told 3 := ⟨(pv_wg7 12 (by decide +kernel)), (pv_wg1 6 (by decide +kernel)), ⟨by decide, by decide⟩, by decide, by decide +kernel, by decide +kernel⟩
abbrev mX12_dances : pv_Mth := (yX12_dances, cX12_dances, 4, (some .int))
theorem mgX12_dances : pv_MG mX12_dances 2 := ⟨(pv_wg7 16 (by decide +kernel)), (pv_wg1 6 (by decide +kernel)), ⟨by decide, by decide⟩, by decide, by decide +kernel, by decide +kernel⟩
abbrev mX12_repeated : pv_Mth := (yX12_repeated, cX12_repeated, 7, (some .long))
theorem mgX12_repeated : pv_MG mX12_repeated 4 := ⟨(pv_wg7 20 (by decide +kernel)), (pv_wg1 6 (by decide +kernel)), ⟨by decide, by decide⟩, by decide, by decide +kernel, by decide +kernel⟩
abbrev mX12_same : pv_Mth := (yX12_same, cX12_same, 11, (some .int))
theorem mgX12_same : pv_MG mX12_same 4 := ⟨(pv_wg7 24 (by decide +kernel)), (pv_wg1 6 (by decide +kernel)), ⟨by decide, by decide⟩, by decide, by decide +kernel, by decide +kernel⟩
abbrev mX12_goes : pv_Mth := (yX12_goes, cX12_goes, 5, (some .boolean))
theorem mgX12_goes : pv_MG mX12_goes 2 := ⟨(pv_wg7 37 (by decide +kernel)), (pv_wg1 6 (by decide +kernel)), ⟨by decide, by decide⟩, by decide, by decide +kernel, by decide +kernel⟩
abbrev mX12_undone : pv_Mth := (yX12_undone, cX12_undone, 17, (some .long))
theorem mgX12_undone : pv_MG mX12_undone 3 := ⟨(pv_wg7 33 (by decide +kernel)), (pv_wg1 6 (by decide +kernel)), ⟨by decide, by decide⟩, by decide, by decide +kernel, by decide +kernel⟩
abbrev mX12_undo : pv_Mth := (yX12_undo, cX12_undo, 1, (some .long))
theorem mgX12_undo : pv_MG mX12_undo 0 := ⟨(pv_wg7 28 (by decide +kernel)), (pv_wg1 6 (by decide +kernel)), ⟨by decide, by decide⟩, by decide, by decide +kernel, by decide +kernel⟩
abbrev mX12_undoes : pv_Mth := (yX12_undoes, cX12_undoes, 3, (some .int))
theorem mgX12_undoes : pv_MG mX12_undoes 1 := ⟨(pv_wg7 43 (by decide +kernel)), (pv_wg1 6 (by decide +kernel)), ⟨by decide, by decide⟩, by decide, by decide +kernel, by decide +kernel⟩
abbrev mX12_made : pv_Mth := (yX12_made, cX12_made, 9, (some .int))
theorem mgX12_made : pv_MG mX12_made 3 := ⟨(pv_wg7 47 (by decide +kernel)), (pv_wg1 6 (by decide +kernel)), ⟨by decide, by decide⟩, by decide, by decide +kernel, by decide +kernel⟩
abbrev mX12_finds : pv_Mth := (yX12_finds, cX12_finds, 9, (some .boolean))
theorem mgX12_finds : pv_MG mX12_finds 2 := ⟨(pv_wg7 63 (by decide +kernel)), (pv_wg1 6 (by decide +kernel)), ⟨by decide, by decide⟩, by decide, by decide +kernel, by decide +kernel⟩
abbrev mX12_zero : pv_Mth := (yX12_zero, cX12_zero, 1, none)
theorem mgX12_zero : pv_MG mX12_zero 0 := ⟨(pv_wg7 59 (by decide +kernel)), (pv_wg1 6 (by decide +kernel)), ⟨by decide, by decide⟩, by decide, by decide +kernel, by decide +kernel⟩
abbrev mX12_least : pv_Mth := (yX12_least, cX12_least, 7, (some .int))
theorem mgX12_least : pv_MG mX12_least 3 := ⟨(pv_wg7 51 (by decide +kernel)), (pv_wg1 6 (by decide +kernel)), ⟨by decide, by decide⟩, by decide, by decide +kernel, by decide +kernel⟩
abbrev mX12_cheaper : pv_Mth := (yX12_cheaper, cX12_cheaper, 8, none)
theorem mgX12_cheaper : pv_MG mX12_cheaper 2 := ⟨(pv_wg7 79 (by decide +kernel)), (pv_wg1 6 (by decide +kernel)), ⟨by decide, by decide⟩, by decide, by decide +kernel, by decide +kernel⟩
abbrev mX12_isCost : pv_Mth := (yX12_isCost, cX12_isCost, 2, (some .boolean))
theorem mgX12_isCost : pv_MG mX12_isCost 1 := ⟨(pv_wg7 75 (by decide +kernel)), (pv_wg1 6 (by decide +kernel)), ⟨by decide, by decide⟩, by decide, by decide +kernel, by decide +kernel⟩
abbrev mX12_cheapest : pv_Mth := (yX12_cheapest, cX12_cheapest, 9, (some .int))
theorem mgX12_cheapest : pv_MG mX12_cheapest 6 := ⟨(pv_wg7 71 (by decide +kernel)), (pv_wg1 6 (by decide +kernel)), ⟨by decide, by decide⟩, by decide, by decide +kernel, by decide +kernel⟩
abbrev mX12_floor : pv_Mth := (yX12_floor, cX12_floor, 7, (some .long))
theorem mgX12_floor : pv_MG mX12_floor 2 := ⟨(pv_wg7 101 (by decide +kernel)), (pv_wg1 6 (by decide +kernel)), ⟨by decide, by decide⟩, by decide, by decide +kernel, by decide +kernel⟩
abbrev mX12_sums : pv_Mth := (yX12_sums, cX12_sums, 25, (some .boolean))
theorem mgX12_sums : pv_MG mX12_sums 4 := ⟨(pv_wg7 97 (by decide +kernel)), (pv_wg1 6 (by decide +kernel)), ⟨by decide, by decide⟩, by decide, by decide +kernel, by decide +kernel⟩
abbrev mX12_isSmall : pv_Mth := (yX12_isSmall, cX12_isSmall, 3, (some .boolean))
theorem mgX12_isSmall : pv_MG mX12_isSmall 1 := ⟨(pv_wg7 91 (by decide +kernel)), (pv_wg1 6 (by decide +kernel)), ⟨by decide, by decide⟩, by decide, by decide +kernel, by decide +kernel⟩
abbrev mX12_isJoined : pv_Mth := (yX12_isJoined, cX12_isJoined, 5, (some .boolean))
theorem mgX12_isJoined : pv_MG mX12_isJoined 2 := ⟨(pv_wg7 87 (by decide +kernel)), (pv_wg1 6 (by decide +kernel)), ⟨by decide, by decide⟩, by decide, by decide +kernel, by decide +kernel⟩
abbrev mX12_side : pv_Mth := (yX12_side, cX12_side, 6, (some .long))
theorem mgX12_side : pv_MG mX12_side 3 := ⟨(pv_wg7 83 (by decide +kernel)), (pv_wg1 6 (by decide +kernel)), ⟨by decide, by decide⟩, by decide, by decide +kernel, by decide +kernel⟩
abbrev mX12_flipP : pv_Mth := (yX12_flipP, cX12_flipP, 5, (some .long))
theorem mgX12_flipP : pv_MG mX12_flipP 2 := ⟨(pv_wg7 110 (by decide +kernel)), (pv_wg1 6 (by decide +kernel)), ⟨by decide, by decide⟩, by decide, by decide +kernel, by decide +kernel⟩
abbrev mX12_flipQ : pv_Mth := (yX12_flipQ, cX12_flipQ, 5, (some .long))
theorem mgX12_flipQ : pv_MG mX12_flipQ 2 := ⟨(pv_wg7 114 (by decide +kernel)), (pv_wg1 6 (by decide +kernel)), ⟨by decide, by decide⟩, by decide, by decide +kernel, by decide +kernel⟩
abbrev mX12_over : pv_Mth := (yX12_over, cX12_over, 6, (some .long))
theorem mgX12_over : pv_MG mX12_over 3 := ⟨(pv_wg7 106 (by decide +kernel)), (pv_wg1 6 (by decide +kernel)), ⟨by decide, by decide⟩, by decide, by decide +kernel, by decide +kernel⟩
abbrev mX12_closed : pv_Mth := (yX12_closed, cX12_closed, 2, (some .int))
theorem mgX12_closed : pv_MG mX12_closed 1 := ⟨(pv_wg7 118 (by decide +kernel)), (pv_wg1 6 (by decide +kernel)), ⟨by decide, by decide⟩, by decide, by decide +kernel, by decide +kernel⟩
abbrev mX12_coloured : pv_Mth := (yX12_coloured, cX12_coloured, 2, (some .long))
theorem mgX12_coloured : pv_MG mX12_coloured 1 := ⟨(pv_wg7 122 (by decide +kernel)), (pv_wg1 6 (by decide +kernel)), ⟨by decide, by decide⟩, by decide, by decide +kernel, by decide +kernel⟩
abbrev mX12_isLess : pv_Mth := (yX12_isLess, cX12_isLess, 26, (some .boolean))
theorem mgX12_isLess : pv_MG mX12_isLess 4 := ⟨(pv_wg7 142 (by decide +kernel)), (pv_wg1 6 (by decide +kernel)), ⟨by decide, by decide⟩, by decide, by decide +kernel, by decide +kernel⟩
abbrev mX12_forgets : pv_Mth := (yX12_forgets, cX12_forgets, 10, (some .boolean))
theorem mgX12_forgets : pv_MG mX12_forgets 3 := ⟨(pv_wg7 134 (by decide +kernel)), (pv_wg1 6 (by decide +kernel)), ⟨by decide, by decide⟩, by decide, by decide +kernel, by decide +kernel⟩
abbrev mX12_forgotten : pv_Mth := (yX12_forgotten, cX12_forgotten, 7, (some .int))
theorem mgX12_forgotten : pv_MG mX12_forgotten 2 := ⟨(pv_wg7 130 (by decide +kernel)), (pv_wg1 6 (by decide +kernel)), ⟨by decide, by decide⟩, by decide, by decide +kernel, by decide +kernel⟩
abbrev mX12_forgot : pv_Mth := (yX12_forgot, cX12_forgot, 4, (some .int))
theorem mgX12_forgot : pv_MG mX12_forgot 2 := ⟨(pv_wg7 126 (by decide +kernel)), (pv_wg1 6 (by decide +kernel)), ⟨by decide, by decide⟩, by decide, by decide +kernel, by decide +kernel⟩
abbrev mX12_may : pv_Mth := (yX12_may, cX12_may, 9, (some .long))
theorem mgX12_may : pv_MG mX12_may 3 := ⟨(pv_wg7 138 (by decide +kernel)), (pv_wg1 6 (by decide +kernel)), ⟨by decide, by decide⟩, by decide, by decide +kernel, by decide +kernel⟩
abbrev mX12_keepsTo : pv_Mth := (yX12_keepsTo, cX12_keepsTo, 10, none)
theorem mgX12_keepsTo : pv_MG mX12_keepsTo 3 := ⟨(pv_wg7 151 (by decide +kernel)), (pv_wg1 6 (by decide +kernel)), ⟨by decide, by decide⟩, by decide, by decide +kernel, by decide +kernel⟩
abbrev mX12_kept : pv_Mth := (yX12_kept, cX12_kept, 4, (some .int))
theorem mgX12_kept : pv_MG mX12_kept 2 := ⟨(pv_wg7 146 (by decide +kernel)), (pv_wg1 6 (by decide +kernel)), ⟨by decide, by decide⟩, by decide, by decide +kernel, by decide +kernel⟩
abbrev mX12_counts : pv_Mth := (yX12_counts, cX12_counts, 8, none)
theorem mgX12_counts : pv_MG mX12_counts 2 := ⟨(pv_wg7 159 (by decide +kernel)), (pv_wg1 6 (by decide +kernel)), ⟨by decide, by decide⟩, by decide, by decide +kernel, by decide +kernel⟩
abbrev mX12_lot : pv_Mth := (yX12_lot, cX12_lot, 6, (some .int))
theorem mgX12_lot : pv_MG mX12_lot 3 := ⟨(pv_wg7 155 (by decide +kernel)), (pv_wg1 6 (by decide +kernel)), ⟨by decide, by decide⟩, by decide, by decide +kernel, by decide +kernel⟩
abbrev mX12_tells : pv_Mth := (yX12_tells, cX12_tells, 5, (some .boolean))
theorem mgX12_tells : pv_MG mX12_tells 2 := ⟨(pv_wg7 167 (by decide +kernel)), (pv_wg1 6 (by decide +kernel)), ⟨by decide, by decide⟩, by decide, by decide +kernel, by decide +kernel⟩
abbrev mX12_bag : pv_Mth := (yX12_bag, cX12_bag, 8, (some .int))
theorem mgX12_bag : pv_MG mX12_bag 4 := ⟨(pv_wg7 163 (by decide +kernel)), (pv_wg1 6 (by decide +kernel)), ⟨by decide, by decide⟩, by decide, by decide +kernel, by decide +kernel⟩
abbrev mX12_stepped : pv_Mth := (yX12_stepped, cX12_stepped, 2, (some .boolean))
theorem mgX12_stepped : pv_MG mX12_stepped 1 := ⟨(pv_wg7 175 (by decide +kernel)), (pv_wg1 6 (by decide +kernel)), ⟨by decide, by decide⟩, by decide, by decide +kernel, by decide +kernel⟩
abbrev mX12_frees : pv_Mth := (yX12_frees, cX12_frees, 3, (some .int))
theorem mgX12_frees : pv_MG mX12_frees 1 := ⟨(pv_wg7 171 (by decide +kernel)), (pv_wg1 6 (by decide +kernel)), ⟨by decide, by decide⟩, by decide, by decide +kernel, by decide +kernel⟩
abbrev mX12_draw : pv_Mth := (yX12_draw, cX12_draw, 2, (some .int))
theorem mgX12_draw : pv_MG mX12_draw 1 := ⟨(pv_wg7 183 (by decide +kernel)), (pv_wg1 6 (by decide +kernel)), ⟨by decide, by decide⟩, by decide, by decide +kernel, by decide +kernel⟩
abbrev mX12_draws : pv_Mth := (yX12_draws, cX12_draws, 3, (some .int))
theorem mgX12_draws : pv_MG mX12_draws 1 := ⟨(pv_wg7 179 (by decide +kernel)), (pv_wg1 6 (by decide +kernel)), ⟨by decide, by decide⟩, by decide, by decide +kernel, by decide +kernel⟩
abbrev mX12_seed : pv_Mth := (yX12_seed, cX12_seed, 3, (some .int))
theorem mgX12_seed : pv_MG mX12_seed 1 := ⟨(pv_wg7 188 (by decide +kernel)), (pv_wg1 6 (by decide +kernel)), ⟨by decide, by decide⟩, by decide, by decide +kernel, by decide +kernel⟩
abbrev mX12_body : pv_Mth := (yX12_body, cX12_body, 2, none)
theorem mgX12_body : pv_MG mX12_body 1 := ⟨(pv_wg7 200 (by decide +kernel)), (pv_wg1 6 (by decide +kernel)), ⟨by decide, by decide⟩, by decide, by decide +kernel, by decide +kernel⟩
abbrev mX12_calling : pv_Mth := (yX12_calling, cX12_calling, 5, (some .int))
theorem mgX12_calling : pv_MG mX12_calling 2 := ⟨(pv_wg7 196 (by decide +kernel)), (pv_wg1 6 (by decide +kernel)), ⟨by decide, by decide⟩, by decide, by decide +kernel, by decide +kernel⟩
abbrev mX12_stepping : pv_Mth := (yX12_stepping, cX12_stepping, 6, (some .int))
theorem mgX12_stepping : pv_MG mX12_stepping 2 := ⟨(pv_wg7 204 (by decide +kernel)), (pv_wg1 6 (by decide +kernel)), ⟨by decide, by decide⟩, by decide, by decide +kernel, by decide +kernel⟩
abbrev mX12_knotting : pv_Mth := (yX12_knotting, cX12_knotting, 5, (some .int))
theorem mgX12_knotting : pv_MG mX12_knotting 2 := ⟨(pv_wg7 208 (by decide +kernel)), (pv_wg1 6 (by decide +kernel)), ⟨by decide, by decide⟩, by decide, by decide +kernel, by decide +kernel⟩
abbrev mX12_act : pv_Mth := (yX12_act, cX12_act, 4, (some .int))
theorem mgX12_act : pv_MG mX12_act 3 := ⟨(pv_wg7 192 (by decide +kernel)), (pv_wg1 6 (by decide +kernel)), ⟨by decide, by decide⟩, by decide, by decide +kernel, by decide +kernel⟩
abbrev mX12_trace : pv_Mth := (yX12_trace, cX12_trace, 2, (some .int))
theorem mgX12_trace : pv_MG mX12_trace 1 := ⟨(pv_wg7 212 (by decide +kernel)), (pv_wg1 6 (by decide +kernel)), ⟨by decide, by decide⟩, by decide, by decide +kernel, by decide +kernel⟩
abbrev mX12_image : pv_Mth := (yX12_image, cX12_image, 1, (some .int))
theorem mgX12_image : pv_MG mX12_image 0 := ⟨(pv_wg7 216 (by decide +kernel)), (pv_wg1 6 (by decide +kernel)), ⟨by decide, by decide⟩, by decide, by decide +kernel, by decide +kernel⟩
abbrev mX12_restore : pv_Mth := (yX12_restore, cX12_restore, 2, (some .int))
theorem mgX12_restore : pv_MG mX12_restore 0 := ⟨(pv_wg7 220 (by decide +kernel)), (pv_wg1 6 (by decide +kernel)), ⟨by decide, by decide⟩, by decide, by decide +kernel, by decide +kernel⟩
abbrev mX12_status : pv_Mth := (yX12_status, cX12_status, 2, (some .int))
theorem mgX12_status : pv_MG mX12_status 1 := ⟨(pv_wg7 224 (by decide +kernel)), (pv_wg1 6 (by decide +kernel)), ⟨by decide, by decide⟩, by decide, by decide +kernel, by decide +kernel⟩
abbrev mJ6_compare_7cf53 : pv_Mth := (yJ6_compare_7cf53, cJ6_compare_7cf53, 2, (some .int))
theorem mgJ6_compare_7cf53 : pv_MG mJ6_compare_7cf53 2 := ⟨(pv_wg4 179 (by decide +kernel)), (pv_wg1 22 (by decide +kernel)), ⟨by decide, by decide⟩, by decide, by decide +kernel, by decide +kernel⟩
abbrev mJ13_compare_74951 : pv_Mth := (yJ13_compare_74951, cJ13_compare_74951, 4, (some .int))
theorem mgJ13_compare_74951 : pv_MG mJ13_compare_74951 2 := ⟨(pv_wg4 176 (by decide +kernel)), (pv_wg1 21 (by decide +kernel)), ⟨by decide, by decide⟩, by decide, by decide +kernel, by decide +kernel⟩
abbrev mJ9_floorDiv_f86c9 : pv_Mth := (yJ9_floorDiv_f86c9, cJ9_floorDiv_f86c9, 6, (some .long))
theorem mgJ9_floorDiv_f86c9 : pv_MG mJ9_floorDiv_f86c9 2 := ⟨(pv_wg4 173 (by decide +kernel)), (pv_wg1 8 (by decide +kernel)), ⟨by decide, by decide⟩, by decide, by decide +kernel, by decide +kernel⟩
abbrev mJ0_length_8abf5 : pv_Mth := (yJ0_length_8abf5, cJ0_length_8abf5, 1, (some .int))
theorem mgJ0_length_8abf5 : pv_MG mJ0_length_8abf5 0 := ⟨(pv_wg3 58 (by decide +kernel)), (pv_wg1 17 (by decide +kernel)), ⟨by decide, by decide⟩, by decide, by decide +kernel, by decide +kernel⟩
abbrev mJ0_charAt_5068e : pv_Mth := (yJ0_charAt_5068e, cJ0_charAt_5068e, 2, (some .char))
theorem mgJ0_charAt_5068e : pv_MG mJ0_charAt_5068e 1 := ⟨(pv_wg3 68 (by decide +kernel)), (pv_wg1 17 (by decide +kernel)), ⟨by decide, by decide⟩, by decide, by decide +kernel, by decide +kernel⟩
abbrev mJ0_coder_7d493 : pv_Mth := (yJ0_coder_7d493, cJ0_coder_7d493, 1, (some .byte))
theorem mgJ0_coder_7d493 : pv_MG mJ0_coder_7d493 0 := ⟨(pv_wg3 62 (by decide +kernel)), (pv_wg1 17 (by decide +kernel)), ⟨by decide, by decide⟩, by decide, by decide +kernel, by decide +kernel⟩
abbrev mJ0_isLatin1_aae02 : pv_Mth := (yJ0_isLatin1_aae02, cJ0_isLatin1_aae02, 1, (some .boolean))
theorem mgJ0_isLatin1_aae02 : pv_MG mJ0_isLatin1_aae02 0 := ⟨(pv_wg3 72 (by decide +kernel)), (pv_wg1 17 (by decide +kernel)), ⟨by decide, by decide⟩, by decide, by decide +kernel, by decide +kernel⟩
abbrev mJ0_checkIndex_df160 : pv_Mth := (yJ0_checkIndex_df160, cJ0_checkIndex_df160, 2, none)
theorem mgJ0_checkIndex_df160 : pv_MG mJ0_checkIndex_df160 2 := ⟨(pv_wg3 78 (by decide +kernel)), (pv_wg1 17 (by decide +kernel)), ⟨by decide, by decide⟩, by decide, by decide +kernel, by decide +kernel⟩
abbrev mJ1_charAt_3b067 : pv_Mth := (yJ1_charAt_3b067, cJ1_charAt_3b067, 2, (some .char))
theorem mgJ1_charAt_3b067 : pv_MG mJ1_charAt_3b067 2 := ⟨(pv_wg3 75 (by decide +kernel)), (pv_wg1 18 (by decide +kernel)), ⟨by decide, by decide⟩, by decide, by decide +kernel, by decide +kernel⟩
abbrev mJ2_getChar_3b067 : pv_Mth := (yJ2_getChar_3b067, cJ2_getChar_3b067, 2, (some .char))
theorem mgJ2_getChar_3b067 : pv_MG mJ2_getChar_3b067 2 := ⟨(pv_wg3 96 (by decide +kernel)), (pv_wg1 20 (by decide +kernel)), ⟨by decide, by decide⟩, by decide, by decide +kernel, by decide +kernel⟩
abbrev mJ2_length_9d52b : pv_Mth := (yJ2_length_9d52b, cJ2_length_9d52b, 1, (some .int))
theorem mgJ2_length_9d52b : pv_MG mJ2_length_9d52b 1 := ⟨(pv_wg3 92 (by decide +kernel)), (pv_wg1 20 (by decide +kernel)), ⟨by decide, by decide⟩, by decide, by decide +kernel, by decide +kernel⟩
abbrev mJ2_charAt_3b067 : pv_Mth := (yJ2_charAt_3b067, cJ2_charAt_3b067, 2, (some .char))
theorem mgJ2_charAt_3b067 : pv_MG mJ2_charAt_3b067 2 := ⟨(pv_wg3 86 (by decide +kernel)), (pv_wg1 20 (by decide +kernel)), ⟨by decide, by decide⟩, by decide, by decide +kernel, by decide +kernel⟩
abbrev mJ2_checkIndex_2214a : pv_Mth := (yJ2_checkIndex_2214a, cJ2_checkIndex_2214a, 2, none)
theorem mgJ2_checkIndex_2214a : pv_MG mJ2_checkIndex_2214a 2 := ⟨(pv_wg3 89 (by decide +kernel)), (pv_wg1 20 (by decide +kernel)), ⟨by decide, by decide⟩, by decide, by decide +kernel, by decide +kernel⟩
abbrev mJ7_fill_d0a16 : pv_Mth := (yJ7_fill_d0a16, cJ7_fill_d0a16, 5, none)
theorem mgJ7_fill_d0a16 : pv_MG mJ7_fill_d0a16 2 := ⟨(pv_wg2 1 (by decide +kernel)), (pv_wg1 7 (by decide +kernel)), ⟨by decide, by decide⟩, by decide, by decide +kernel, by decide +kernel⟩
abbrev mJ7_fill_53178 : pv_Mth := (yJ7_fill_53178, cJ7_fill_53178, 4, none)
theorem mgJ7_fill_53178 : pv_MG mJ7_fill_53178 2 := ⟨(pv_wg4 141 (by decide +kernel)), (pv_wg1 7 (by decide +kernel)), ⟨by decide, by decide⟩, by decide, by decide +kernel, by decide +kernel⟩
abbrev mJ3_checkIndex_8e157 : pv_Mth := (yJ3_checkIndex_8e157, cJ3_checkIndex_8e157, 3, (some .int))
theorem mgJ3_checkIndex_8e157 : pv_MG mJ3_checkIndex_8e157 3 := ⟨(pv_wg3 83 (by decide +kernel)), (pv_wg1 19 (by decide +kernel)), ⟨by decide, by decide⟩, by decide, by decide +kernel, by decide +kernel⟩
theorem fl_X4_9_4 : pv_FL RX4 9 4 0 (.array .int) true := ⟨(RX4, TX4, 7), "TwoRopes$Hall", rfl, by decide, rfl, rfl, Or.inl ⟨(pv_wg1 41 (by decide +kernel)), fun _ => rfl⟩, Or.inl rfl⟩
theorem fg_X4_9_4 : pv_FG RX4 9 4 0 (.array .int) := fl_X4_9_4.g
theorem fl_X4_29_4 : pv_FL RX4 29 4 1 (.long) false := ⟨(RX4, TX4, 7), "TwoRopes$Hall", rfl, by decide, rfl, rfl, Or.inl ⟨(pv_wg1 43 (by decide +kernel)), fun h => by cases h⟩, Or.inl rfl⟩
theorem fg_X4_29_4 : pv_FG RX4 29 4 1 (.long) := fl_X4_29_4.g
theorem fl_X2_40_4 : pv_FL RX2 40 4 1 (.long) false := ⟨(RX4, TX4, 7), "TwoRopes$Hall", rfl, by decide, rfl, rfl, Or.inr ⟨rfl, "TwoRopes", (pv_wn1 44 (by decide +kernel))⟩, Or.inl rfl⟩
theorem fg_X2_40_4 : pv_FG RX2 40 4 1 (.long) := fl_X2_40_4.g
theorem fl_X11_186_4 : pv_FL RX11 186 4 1 (.long) false := ⟨(RX4, TX4, 7), "TwoRopes$Hall", rfl, by decide, rfl, rfl, Or.inr ⟨rfl, "TwoRopes", (pv_wn1 45 (by decide +kernel))⟩, Or.inl rfl⟩
theorem fg_X11_186_4 : pv_FG RX11 186 4 1 (.long) := fl_X11_186_4.g
theorem fl_X4_15_4 : pv_FL RX4 15 4 2 (.long) false := ⟨(RX4, TX4, 7), "TwoRopes$Hall", rfl, by decide, rfl, rfl, Or.inl ⟨(pv_wg1 46 (by decide +kernel)), fun h => by cases h⟩, Or.inl rfl⟩
theorem fg_X4_15_4 : pv_FG RX4 15 4 2 (.long) := fl_X4_15_4.g
theorem fl_X2_46_4 : pv_FL RX2 46 4 2 (.long) false := ⟨(RX4, TX4, 7), "TwoRopes$Hall", rfl, by decide, rfl, rfl, Or.inr ⟨rfl, "TwoRopes", (pv_wn1 47 (by decide +kernel))⟩, Or.inl rfl⟩
theorem fg_X2_46_4 : pv_FG RX2 46 4 2 (.long) := fl_X2_46_4.g
theorem fl_X11_190_4 : pv_FL RX11 190 4 2 (.long) false := ⟨(RX4, TX4, 7), "TwoRopes$Hall", rfl, by decide, rfl, rfl, Or.inr ⟨rfl, "TwoRopes", (pv_wn1 48 (by decide +kernel))⟩, Or.inl rfl⟩
theorem fg_X11_190_4 : pv_FG RX11 190 4 2 (.long) := fl_X11_190_4.g
theorem fl_X4_32_4 : pv_FL RX4 32 4 3 (.int) false := ⟨(RX4, TX4, 7), "TwoRopes$Hall", rfl, by decide, rfl, rfl, Or.inl ⟨(pv_wg1 49 (by decide +kernel)), fun h => by cases h⟩, Or.inl rfl⟩
theorem fg_X4_32_4 : pv_FG RX4 32 4 3 (.int) := fl_X4_32_4.g
theorem fl_X11_151_4 : pv_FL RX11 151 4 3 (.int) false := ⟨(RX4, TX4, 7), "TwoRopes$Hall", rfl, by decide, rfl, rfl, Or.inr ⟨rfl, "TwoRopes", (pv_wn1 50 (by decide +kernel))⟩, Or.inl rfl⟩
theorem fg_X11_151_4 : pv_FG RX11 151 4 3 (.int) := fl_X11_151_4.g
theorem fl_X4_35_4 : pv_FL RX4 35 4 4 (.int) false := ⟨(RX4, TX4, 7), "TwoRopes$Hall", rfl, by decide, rfl, rfl, Or.inl ⟨(pv_wg1 51 (by decide +kernel)), fun h => by cases h⟩, Or.inl rfl⟩
theorem fg_X4_35_4 : pv_FG RX4 35 4 4 (.int) := fl_X4_35_4.g
theorem fl_X11_200_4 : pv_FL RX11 200 4 4 (.int) false := ⟨(RX4, TX4, 7), "TwoRopes$Hall", rfl, by decide, rfl, rfl, Or.inr ⟨rfl, "TwoRopes", (pv_wn1 52 (by decide +kernel))⟩, Or.inl rfl⟩
theorem fg_X11_200_4 : pv_FG RX11 200 4 4 (.int) := fl_X11_200_4.g
theorem fl_X4_38_4 : pv_FL RX4 38 4 5 (.int) false := ⟨(RX4, TX4, 7), "TwoRopes$Hall", rfl, by decide, rfl, rfl, Or.inl ⟨(pv_wg1 53 (by decide +kernel)), fun h => by cases h⟩, Or.inl rfl⟩
theorem fg_X4_38_4 : pv_FG RX4 38 4 5 (.int) := fl_X4_38_4.g
theorem fl_X11_210_4 : pv_FL RX11 210 4 5 (.int) false := ⟨(RX4, TX4, 7), "TwoRopes$Hall", rfl, by decide, rfl, rfl, Or.inr ⟨rfl, "TwoRopes", (pv_wn1 54 (by decide +kernel))⟩, Or.inl rfl⟩
theorem fg_X11_210_4 : pv_FG RX11 210 4 5 (.int) := fl_X11_210_4.g
theorem fl_X4_19_4 : pv_FL RX4 19 4 6 (.int) false := ⟨(RX4, TX4, 7), "TwoRopes$Hall", rfl, by decide, rfl, rfl, Or.inl ⟨(pv_wg1 55 (by decide +kernel)), fun h => by cases h⟩, Or.inl rfl⟩
theorem fg_X4_19_4 : pv_FG RX4 19 4 6 (.int) := fl_X4_19_4.g
theorem fl_X11_325_4 : pv_FL RX11 325 4 6 (.int) false := ⟨(RX4, TX4, 7), "TwoRopes$Hall", rfl, by decide, rfl, rfl, Or.inr ⟨rfl, "TwoRopes", (pv_wn1 56 (by decide +kernel))⟩, Or.inl rfl⟩
theorem fg_X11_325_4 : pv_FG RX11 325 4 6 (.int) := fl_X11_325_4.g
theorem fl_X7_9_7 : pv_FL RX7 9 7 0 (.array .long) true := ⟨(RX7, TX7, 12), "TwoRopes$Search", rfl, by decide, rfl, rfl, Or.inl ⟨(pv_wg1 79 (by decide +kernel)), fun _ => rfl⟩, Or.inl rfl⟩
theorem fg_X7_9_7 : pv_FG RX7 9 7 0 (.array .long) := fl_X7_9_7.g
theorem fl_X7_15_7 : pv_FL RX7 15 7 1 (.array .long) true := ⟨(RX7, TX7, 12), "TwoRopes$Search", rfl, by decide, rfl, rfl, Or.inl ⟨(pv_wg1 80 (by decide +kernel)), fun _ => rfl⟩, Or.inl rfl⟩
theorem fg_X7_15_7 : pv_FG RX7 15 7 1 (.array .long) := fl_X7_15_7.g
theorem fl_X7_18_7 : pv_FL RX7 18 7 2 (.array .int) true := ⟨(RX7, TX7, 12), "TwoRopes$Search", rfl, by decide, rfl, rfl, Or.inl ⟨(pv_wg1 81 (by decide +kernel)), fun _ => rfl⟩, Or.inl rfl⟩
theorem fg_X7_18_7 : pv_FG RX7 18 7 2 (.array .int) := fl_X7_18_7.g
theorem fl_X7_22_7 : pv_FL RX7 22 7 3 (.array .int) true := ⟨(RX7, TX7, 12), "TwoRopes$Search", rfl, by decide, rfl, rfl, Or.inl ⟨(pv_wg1 82 (by decide +kernel)), fun _ => rfl⟩, Or.inl rfl⟩
theorem fg_X7_22_7 : pv_FG RX7 22 7 3 (.array .int) := fl_X7_22_7.g
theorem fl_X7_25_7 : pv_FL RX7 25 7 4 (.array .int) true := ⟨(RX7, TX7, 12), "TwoRopes$Search", rfl, by decide, rfl, rfl, Or.inl ⟨(pv_wg1 83 (by decide +kernel)), fun _ => rfl⟩, Or.inl rfl⟩
theorem fg_X7_25_7 : pv_FG RX7 25 7 4 (.array .int) := fl_X7_25_7.g
theorem fl_X7_28_7 : pv_FL RX7 28 7 5 (.int) false := ⟨(RX7, TX7, 12), "TwoRopes$Search", rfl, by decide, rfl, rfl, Or.inl ⟨(pv_wg1 85 (by decide +kernel)), fun h => by cases h⟩, Or.inl rfl⟩
theorem fg_X7_28_7 : pv_FG RX7 28 7 5 (.int) := fl_X7_28_7.g
theorem fl_X7_38_7 : pv_FL RX7 38 7 6 (.int) false := ⟨(RX7, TX7, 12), "TwoRopes$Search", rfl, by decide, rfl, rfl, Or.inl ⟨(pv_wg1 86 (by decide +kernel)), fun h => by cases h⟩, Or.inl rfl⟩
theorem fg_X7_38_7 : pv_FG RX7 38 7 6 (.int) := fl_X7_38_7.g
theorem fl_X7_41_7 : pv_FL RX7 41 7 7 (.long) false := ⟨(RX7, TX7, 12), "TwoRopes$Search", rfl, by decide, rfl, rfl, Or.inl ⟨(pv_wg1 87 (by decide +kernel)), fun h => by cases h⟩, Or.inl rfl⟩
theorem fg_X7_41_7 : pv_FG RX7 41 7 7 (.long) := fl_X7_41_7.g
theorem fl_X7_45_7 : pv_FL RX7 45 7 8 (.long) false := ⟨(RX7, TX7, 12), "TwoRopes$Search", rfl, by decide, rfl, rfl, Or.inl ⟨(pv_wg1 88 (by decide +kernel)), fun h => by cases h⟩, Or.inl rfl⟩
theorem fg_X7_45_7 : pv_FG RX7 45 7 8 (.long) := fl_X7_45_7.g
theorem fl_X7_54_7 : pv_FL RX7 54 7 9 (.int) false := ⟨(RX7, TX7, 12), "TwoRopes$Search", rfl, by decide, rfl, rfl, Or.inl ⟨(pv_wg1 89 (by decide +kernel)), fun h => by cases h⟩, Or.inl rfl⟩
theorem fg_X7_54_7 : pv_FG RX7 54 7 9 (.int) := fl_X7_54_7.g
theorem fl_X7_32_7 : pv_FL RX7 32 7 10 (.int) false := ⟨(RX7, TX7, 12), "TwoRopes$Search", rfl, by decide, rfl, rfl, Or.inl ⟨(pv_wg1 90 (by decide +kernel)), fun h => by cases h⟩, Or.inl rfl⟩
theorem fg_X7_32_7 : pv_FG RX7 32 7 10 (.int) := fl_X7_32_7.g
theorem fl_X11_252_7 : pv_FL RX11 252 7 10 (.int) false := ⟨(RX7, TX7, 12), "TwoRopes$Search", rfl, by decide, rfl, rfl, Or.inr ⟨rfl, "TwoRopes", (pv_wn1 91 (by decide +kernel))⟩, Or.inl rfl⟩
theorem fg_X11_252_7 : pv_FG RX11 252 7 10 (.int) := fl_X11_252_7.g
theorem fl_X7_35_7 : pv_FL RX7 35 7 11 (.int) false := ⟨(RX7, TX7, 12), "TwoRopes$Search", rfl, by decide, rfl, rfl, Or.inl ⟨(pv_wg1 92 (by decide +kernel)), fun h => by cases h⟩, Or.inl rfl⟩
theorem fg_X7_35_7 : pv_FG RX7 35 7 11 (.int) := fl_X7_35_7.g
theorem fl_X11_246_7 : pv_FL RX11 246 7 11 (.int) false := ⟨(RX7, TX7, 12), "TwoRopes$Search", rfl, by decide, rfl, rfl, Or.inr ⟨rfl, "TwoRopes", (pv_wn1 93 (by decide +kernel))⟩, Or.inl rfl⟩
theorem fg_X11_246_7 : pv_FG RX11 246 7 11 (.int) := fl_X11_246_7.g
theorem fl_X2_9_2 : pv_FL RX2 9 2 0 (.array .long) true := ⟨(RX2, TX2, 6), "TwoRopes$Crowd", rfl, by decide, rfl, rfl, Or.inl ⟨(pv_wg1 126 (by decide +kernel)), fun _ => rfl⟩, Or.inl rfl⟩
theorem fg_X2_9_2 : pv_FG RX2 9 2 0 (.array .long) := fl_X2_9_2.g
theorem fl_X2_13_2 : pv_FL RX2 13 2 1 (.array .long) true := ⟨(RX2, TX2, 6), "TwoRopes$Crowd", rfl, by decide, rfl, rfl, Or.inl ⟨(pv_wg1 128 (by decide +kernel)), fun _ => rfl⟩, Or.inl rfl⟩
theorem fg_X2_13_2 : pv_FG RX2 13 2 1 (.array .long) := fl_X2_13_2.g
theorem fl_X2_16_2 : pv_FL RX2 16 2 2 (.array .int) true := ⟨(RX2, TX2, 6), "TwoRopes$Crowd", rfl, by decide, rfl, rfl, Or.inl ⟨(pv_wg1 130 (by decide +kernel)), fun _ => rfl⟩, Or.inl rfl⟩
theorem fg_X2_16_2 : pv_FG RX2 16 2 2 (.array .int) := fl_X2_16_2.g
theorem fl_X2_20_2 : pv_FL RX2 20 2 3 (.array .int) true := ⟨(RX2, TX2, 6), "TwoRopes$Crowd", rfl, by decide, rfl, rfl, Or.inl ⟨(pv_wg1 131 (by decide +kernel)), fun _ => rfl⟩, Or.inl rfl⟩
theorem fg_X2_20_2 : pv_FG RX2 20 2 3 (.array .int) := fl_X2_20_2.g
theorem fl_X2_29_2 : pv_FL RX2 29 2 4 (.int) false := ⟨(RX2, TX2, 6), "TwoRopes$Crowd", rfl, by decide, rfl, rfl, Or.inl ⟨(pv_wg1 132 (by decide +kernel)), fun h => by cases h⟩, Or.inl rfl⟩
theorem fg_X2_29_2 : pv_FG RX2 29 2 4 (.int) := fl_X2_29_2.g
theorem fl_X11_285_2 : pv_FL RX11 285 2 4 (.int) false := ⟨(RX2, TX2, 6), "TwoRopes$Crowd", rfl, by decide, rfl, rfl, Or.inr ⟨rfl, "TwoRopes", (pv_wn1 133 (by decide +kernel))⟩, Or.inl rfl⟩
theorem fg_X11_285_2 : pv_FG RX11 285 2 4 (.int) := fl_X11_285_2.g
theorem fl_X2_33_2 : pv_FL RX2 33 2 5 (.boolean) false := ⟨(RX2, TX2, 6), "TwoRopes$Crowd", rfl, by decide, rfl, rfl, Or.inl ⟨(pv_wg1 134 (by decide +kernel)), fun h => by cases h⟩, Or.inl rfl⟩
theorem fg_X2_33_2 : pv_FG RX2 33 2 5 (.boolean) := fl_X2_33_2.g
theorem fl_X11_425_2 : pv_FL RX11 425 2 5 (.boolean) false := ⟨(RX2, TX2, 6), "TwoRopes$Crowd", rfl, by decide, rfl, rfl, Or.inr ⟨rfl, "TwoRopes", (pv_wn1 135 (by decide +kernel))⟩, Or.inl rfl⟩
theorem fg_X11_425_2 : pv_FG RX11 425 2 5 (.boolean) := fl_X11_425_2.g
theorem fl_X8_9_8 : pv_FL RX8 9 8 0 (.array .long) true := ⟨(RX8, TX8, 7), "TwoRopes$Shelf", rfl, by decide, rfl, rfl, Or.inl ⟨(pv_wg1 154 (by decide +kernel)), fun _ => rfl⟩, Or.inl rfl⟩
theorem fg_X8_9_8 : pv_FG RX8 9 8 0 (.array .long) := fl_X8_9_8.g
theorem fl_X8_15_8 : pv_FL RX8 15 8 1 (.int) false := ⟨(RX8, TX8, 7), "TwoRopes$Shelf", rfl, by decide, rfl, rfl, Or.inl ⟨(pv_wg1 156 (by decide +kernel)), fun h => by cases h⟩, Or.inl rfl⟩
theorem fg_X8_15_8 : pv_FG RX8 15 8 1 (.int) := fl_X8_15_8.g
theorem fl_X11_93_8 : pv_FL RX11 93 8 1 (.int) false := ⟨(RX8, TX8, 7), "TwoRopes$Shelf", rfl, by decide, rfl, rfl, Or.inr ⟨rfl, "TwoRopes", (pv_wn1 157 (by decide +kernel))⟩, Or.inl rfl⟩
theorem fg_X11_93_8 : pv_FG RX11 93 8 1 (.int) := fl_X11_93_8.g
theorem fl_X8_25_8 : pv_FL RX8 25 8 2 (.int) false := ⟨(RX8, TX8, 7), "TwoRopes$Shelf", rfl, by decide, rfl, rfl, Or.inl ⟨(pv_wg1 158 (by decide +kernel)), fun h => by cases h⟩, Or.inl rfl⟩
theorem fg_X8_25_8 : pv_FG RX8 25 8 2 (.int) := fl_X8_25_8.g
theorem fl_X11_314_8 : pv_FL RX11 314 8 2 (.int) false := ⟨(RX8, TX8, 7), "TwoRopes$Shelf", rfl, by decide, rfl, rfl, Or.inr ⟨rfl, "TwoRopes", (pv_wn1 159 (by decide +kernel))⟩, Or.inl rfl⟩
theorem fg_X11_314_8 : pv_FG RX11 314 8 2 (.int) := fl_X11_314_8.g
theorem fl_X8_19_8 : pv_FL RX8 19 8 3 (.int) false := ⟨(RX8, TX8, 7), "TwoRopes$Shelf", rfl, by decide, rfl, rfl, Or.inl ⟨(pv_wg1 160 (by decide +kernel)), fun h => by cases h⟩, Or.inl rfl⟩
theorem fg_X8_19_8 : pv_FG RX8 19 8 3 (.int) := fl_X8_19_8.g
theorem fl_X11_126_8 : pv_FL RX11 126 8 3 (.int) false := ⟨(RX8, TX8, 7), "TwoRopes$Shelf", rfl, by decide, rfl, rfl, Or.inr ⟨rfl, "TwoRopes", (pv_wn1 161 (by decide +kernel))⟩, Or.inl rfl⟩
theorem fg_X11_126_8 : pv_FG RX11 126 8 3 (.int) := fl_X11_126_8.g
theorem fl_X8_42_8 : pv_FL RX8 42 8 4 (.int) false := ⟨(RX8, TX8, 7), "TwoRopes$Shelf", rfl, by decide, rfl, rfl, Or.inl ⟨(pv_wg1 162 (by decide +kernel)), fun h => by cases h⟩, Or.inl rfl⟩
theorem fg_X8_42_8 : pv_FG RX8 42 8 4 (.int) := fl_X8_42_8.g
theorem fl_X11_439_8 : pv_FL RX11 439 8 4 (.int) false := ⟨(RX8, TX8, 7), "TwoRopes$Shelf", rfl, by decide, rfl, rfl, Or.inr ⟨rfl, "TwoRopes", (pv_wn1 163 (by decide +kernel))⟩, Or.inl rfl⟩
theorem fg_X11_439_8 : pv_FG RX11 439 8 4 (.int) := fl_X11_439_8.g
theorem fl_X8_71_8 : pv_FL RX8 71 8 5 (.int) false := ⟨(RX8, TX8, 7), "TwoRopes$Shelf", rfl, by decide, rfl, rfl, Or.inl ⟨(pv_wg1 164 (by decide +kernel)), fun h => by cases h⟩, Or.inl rfl⟩
theorem fg_X8_71_8 : pv_FG RX8 71 8 5 (.int) := fl_X8_71_8.g
theorem fl_X11_467_8 : pv_FL RX11 467 8 5 (.int) false := ⟨(RX8, TX8, 7), "TwoRopes$Shelf", rfl, by decide, rfl, rfl, Or.inr ⟨rfl, "TwoRopes", (pv_wn1 165 (by decide +kernel))⟩, Or.inl rfl⟩
theorem fg_X11_467_8 : pv_FG RX11 467 8 5 (.int) := fl_X11_467_8.g
theorem fl_X8_22_8 : pv_FL RX8 22 8 6 (.int) false := ⟨(RX8, TX8, 7), "TwoRopes$Shelf", rfl, by decide, rfl, rfl, Or.inl ⟨(pv_wg1 166 (by decide +kernel)), fun h => by cases h⟩, Or.inl rfl⟩
theorem fg_X8_22_8 : pv_FG RX8 22 8 6 (.int) := fl_X8_22_8.g
theorem fl_X11_180_8 : pv_FL RX11 180 8 6 (.int) false := ⟨(RX8, TX8, 7), "TwoRopes$Shelf", rfl, by decide, rfl, rfl, Or.inr ⟨rfl, "TwoRopes", (pv_wn1 167 (by decide +kernel))⟩, Or.inl rfl⟩
theorem fg_X11_180_8 : pv_FG RX11 180 8 6 (.int) := fl_X11_180_8.g
theorem fl_X11_11_11 : pv_FL RX11 11 11 0 (.array (.object "TwoRopes$Shelf")) true := ⟨(RX11, TX11, 13), "TwoRopes", rfl, by decide, rfl, rfl, Or.inl ⟨(pv_wg1 183 (by decide +kernel)), fun _ => rfl⟩, Or.inl rfl⟩
theorem fg_X11_11_11 : pv_FG RX11 11 11 0 (.array (.object "TwoRopes$Shelf")) := fl_X11_11_11.g
theorem fl_X11_17_11 : pv_FL RX11 17 11 1 (.array (.object "TwoRopes$Dance")) true := ⟨(RX11, TX11, 13), "TwoRopes", rfl, by decide, rfl, rfl, Or.inl ⟨(pv_wg1 184 (by decide +kernel)), fun _ => rfl⟩, Or.inl rfl⟩
theorem fg_X11_17_11 : pv_FG RX11 17 11 1 (.array (.object "TwoRopes$Dance")) := fl_X11_17_11.g
theorem fl_X11_21_11 : pv_FL RX11 21 11 2 (.array .int) true := ⟨(RX11, TX11, 13), "TwoRopes", rfl, by decide, rfl, rfl, Or.inl ⟨(pv_wg1 185 (by decide +kernel)), fun _ => rfl⟩, Or.inl rfl⟩
theorem fg_X11_21_11 : pv_FG RX11 21 11 2 (.array .int) := fl_X11_21_11.g
theorem fl_X11_25_11 : pv_FL RX11 25 11 3 (.array .int) true := ⟨(RX11, TX11, 13), "TwoRopes", rfl, by decide, rfl, rfl, Or.inl ⟨(pv_wg1 186 (by decide +kernel)), fun _ => rfl⟩, Or.inl rfl⟩
theorem fg_X11_25_11 : pv_FG RX11 25 11 3 (.array .int) := fl_X11_25_11.g
theorem fl_X11_31_11 : pv_FL RX11 31 11 4 (.object "TwoRopes$Hall") true := ⟨(RX11, TX11, 13), "TwoRopes", rfl, by decide, rfl, rfl, Or.inl ⟨(pv_wg1 187 (by decide +kernel)), fun _ => rfl⟩, Or.inl rfl⟩
theorem fg_X11_31_11 : pv_FG RX11 31 11 4 (.object "TwoRopes$Hall") := fl_X11_31_11.g
theorem fl_X11_35_11 : pv_FL RX11 35 11 5 (.object "TwoRopes$Hall") true := ⟨(RX11, TX11, 13), "TwoRopes", rfl, by decide, rfl, rfl, Or.inl ⟨(pv_wg1 188 (by decide +kernel)), fun _ => rfl⟩, Or.inl rfl⟩
theorem fg_X11_35_11 : pv_FG RX11 35 11 5 (.object "TwoRopes$Hall") := fl_X11_35_11.g
theorem fl_X11_38_11 : pv_FL RX11 38 11 6 (.object "TwoRopes$Hall") true := ⟨(RX11, TX11, 13), "TwoRopes", rfl, by decide, rfl, rfl, Or.inl ⟨(pv_wg1 189 (by decide +kernel)), fun _ => rfl⟩, Or.inl rfl⟩
theorem fg_X11_38_11 : pv_FG RX11 38 11 6 (.object "TwoRopes$Hall") := fl_X11_38_11.g
theorem fl_X11_41_11 : pv_FL RX11 41 11 7 (.object "TwoRopes$Hall") true := ⟨(RX11, TX11, 13), "TwoRopes", rfl, by decide, rfl, rfl, Or.inl ⟨(pv_wg1 190 (by decide +kernel)), fun _ => rfl⟩, Or.inl rfl⟩
theorem fg_X11_41_11 : pv_FG RX11 41 11 7 (.object "TwoRopes$Hall") := fl_X11_41_11.g
theorem fl_X11_47_11 : pv_FL RX11 47 11 8 (.object "TwoRopes$Search") true := ⟨(RX11, TX11, 13), "TwoRopes", rfl, by decide, rfl, rfl, Or.inl ⟨(pv_wg1 191 (by decide +kernel)), fun _ => rfl⟩, Or.inl rfl⟩
theorem fg_X11_47_11 : pv_FG RX11 47 11 8 (.object "TwoRopes$Search") := fl_X11_47_11.g
theorem fl_X11_54_11 : pv_FL RX11 54 11 9 (.object "TwoRopes$Crowd") true := ⟨(RX11, TX11, 13), "TwoRopes", rfl, by decide, rfl, rfl, Or.inl ⟨(pv_wg1 192 (by decide +kernel)), fun _ => rfl⟩, Or.inl rfl⟩
theorem fg_X11_54_11 : pv_FG RX11 54 11 9 (.object "TwoRopes$Crowd") := fl_X11_54_11.g
theorem fl_X11_58_11 : pv_FL RX11 58 11 10 (.object "TwoRopes$Crowd") true := ⟨(RX11, TX11, 13), "TwoRopes", rfl, by decide, rfl, rfl, Or.inl ⟨(pv_wg1 193 (by decide +kernel)), fun _ => rfl⟩, Or.inl rfl⟩
theorem fg_X11_58_11 : pv_FG RX11 58 11 10 (.object "TwoRopes$Crowd") := fl_X11_58_11.g
theorem fl_X11_336_11 : pv_FL RX11 336 11 11 (.boolean) false := ⟨(RX11, TX11, 13), "TwoRopes", rfl, by decide, rfl, rfl, Or.inl ⟨(pv_wg1 194 (by decide +kernel)), fun h => by cases h⟩, Or.inl rfl⟩
theorem fg_X11_336_11 : pv_FG RX11 336 11 11 (.boolean) := fl_X11_336_11.g
theorem fl_X11_61_11 : pv_FL RX11 61 11 12 (.int) false := ⟨(RX11, TX11, 13), "TwoRopes", rfl, by decide, rfl, rfl, Or.inl ⟨(pv_wg1 195 (by decide +kernel)), fun h => by cases h⟩, Or.inl rfl⟩
theorem fg_X11_61_11 : pv_FG RX11 61 11 12 (.int) := fl_X11_61_11.g
theorem fl_X3_7_0 : pv_FL RX3 7 0 0 (.int) true := ⟨(RX0, TX0, 5), "TwoRopes$Dance", rfl, by decide, rfl, rfl, Or.inl ⟨(pv_wg2 144 (by decide +kernel)), fun _ => rfl⟩, Or.inl rfl⟩
theorem fg_X3_7_0 : pv_FG RX3 7 0 0 (.int) := fl_X3_7_0.g
theorem fl_X3_7_1 : pv_FL RX3 7 1 0 (.int) true := ⟨(RX1, TX1, 5), "TwoRopes$Dance", rfl, by decide, rfl, rfl, Or.inl ⟨(pv_wg2 144 (by decide +kernel)), fun _ => rfl⟩, Or.inl rfl⟩
theorem fg_X3_7_1 : pv_FG RX3 7 1 0 (.int) := fl_X3_7_1.g
theorem fl_X3_7_3 : pv_FL RX3 7 3 0 (.int) true := ⟨(RX3, TX3, 5), "TwoRopes$Dance", rfl, by decide, rfl, rfl, Or.inl ⟨(pv_wg2 144 (by decide +kernel)), fun _ => rfl⟩, Or.inl rfl⟩
theorem fg_X3_7_3 : pv_FG RX3 7 3 0 (.int) := fl_X3_7_3.g
theorem fl_X3_7_5 : pv_FL RX3 7 5 0 (.int) true := ⟨(RX5, TX5, 5), "TwoRopes$Dance", rfl, by decide, rfl, rfl, Or.inl ⟨(pv_wg2 144 (by decide +kernel)), fun _ => rfl⟩, Or.inl rfl⟩
theorem fg_X3_7_5 : pv_FG RX3 7 5 0 (.int) := fl_X3_7_5.g
theorem fl_X3_7_6 : pv_FL RX3 7 6 0 (.int) true := ⟨(RX6, TX6, 5), "TwoRopes$Dance", rfl, by decide, rfl, rfl, Or.inl ⟨(pv_wg2 144 (by decide +kernel)), fun _ => rfl⟩, Or.inl rfl⟩
theorem fg_X3_7_6 : pv_FG RX3 7 6 0 (.int) := fl_X3_7_6.g
theorem fl_X3_7_9 : pv_FL RX3 7 9 0 (.int) true := ⟨(RX9, TX9, 5), "TwoRopes$Dance", rfl, by decide, rfl, rfl, Or.inl ⟨(pv_wg2 144 (by decide +kernel)), fun _ => rfl⟩, Or.inl rfl⟩
theorem fg_X3_7_9 : pv_FG RX3 7 9 0 (.int) := fl_X3_7_9.g
theorem fl_X3_7_10 : pv_FL RX3 7 10 0 (.int) true := ⟨(RX10, TX10, 5), "TwoRopes$Dance", rfl, by decide, rfl, rfl, Or.inl ⟨(pv_wg2 144 (by decide +kernel)), fun _ => rfl⟩, Or.inl rfl⟩
theorem fg_X3_7_10 : pv_FG RX3 7 10 0 (.int) := fl_X3_7_10.g
theorem fg_X11_132_0 : pv_FG RX11 132 0 0 (.int) := ⟨(RX0, TX0, 5), "TwoRopes$Dance", rfl, by decide, rfl, Or.inl (pv_wg2 145 (by decide +kernel)), Or.inl rfl⟩
theorem fg_X11_132_1 : pv_FG RX11 132 1 0 (.int) := ⟨(RX1, TX1, 5), "TwoRopes$Dance", rfl, by decide, rfl, Or.inl (pv_wg2 145 (by decide +kernel)), Or.inl rfl⟩
theorem fg_X11_132_3 : pv_FG RX11 132 3 0 (.int) := ⟨(RX3, TX3, 5), "TwoRopes$Dance", rfl, by decide, rfl, Or.inl (pv_wg2 145 (by decide +kernel)), Or.inl rfl⟩
theorem fg_X11_132_5 : pv_FG RX11 132 5 0 (.int) := ⟨(RX5, TX5, 5), "TwoRopes$Dance", rfl, by decide, rfl, Or.inl (pv_wg2 145 (by decide +kernel)), Or.inl rfl⟩
theorem fg_X11_132_6 : pv_FG RX11 132 6 0 (.int) := ⟨(RX6, TX6, 5), "TwoRopes$Dance", rfl, by decide, rfl, Or.inl (pv_wg2 145 (by decide +kernel)), Or.inl rfl⟩
theorem fg_X11_132_9 : pv_FG RX11 132 9 0 (.int) := ⟨(RX9, TX9, 5), "TwoRopes$Dance", rfl, by decide, rfl, Or.inl (pv_wg2 145 (by decide +kernel)), Or.inl rfl⟩
theorem fg_X11_132_10 : pv_FG RX11 132 10 0 (.int) := ⟨(RX10, TX10, 5), "TwoRopes$Dance", rfl, by decide, rfl, Or.inl (pv_wg2 145 (by decide +kernel)), Or.inl rfl⟩
theorem fl_X3_13_0 : pv_FL RX3 13 0 1 (.int) true := ⟨(RX0, TX0, 5), "TwoRopes$Dance", rfl, by decide, rfl, rfl, Or.inl ⟨(pv_wg2 146 (by decide +kernel)), fun _ => rfl⟩, Or.inl rfl⟩
theorem fg_X3_13_0 : pv_FG RX3 13 0 1 (.int) := fl_X3_13_0.g
theorem fl_X3_13_1 : pv_FL RX3 13 1 1 (.int) true := ⟨(RX1, TX1, 5), "TwoRopes$Dance", rfl, by decide, rfl, rfl, Or.inl ⟨(pv_wg2 146 (by decide +kernel)), fun _ => rfl⟩, Or.inl rfl⟩
theorem fg_X3_13_1 : pv_FG RX3 13 1 1 (.int) := fl_X3_13_1.g
theorem fl_X3_13_3 : pv_FL RX3 13 3 1 (.int) true := ⟨(RX3, TX3, 5), "TwoRopes$Dance", rfl, by decide, rfl, rfl, Or.inl ⟨(pv_wg2 146 (by decide +kernel)), fun _ => rfl⟩, Or.inl rfl⟩
theorem fg_X3_13_3 : pv_FG RX3 13 3 1 (.int) := fl_X3_13_3.g
theorem fl_X3_13_5 : pv_FL RX3 13 5 1 (.int) true := ⟨(RX5, TX5, 5), "TwoRopes$Dance", rfl, by decide, rfl, rfl, Or.inl ⟨(pv_wg2 146 (by decide +kernel)), fun _ => rfl⟩, Or.inl rfl⟩
theorem fg_X3_13_5 : pv_FG RX3 13 5 1 (.int) := fl_X3_13_5.g
theorem fl_X3_13_6 : pv_FL RX3 13 6 1 (.int) true := ⟨(RX6, TX6, 5), "TwoRopes$Dance", rfl, by decide, rfl, rfl, Or.inl ⟨(pv_wg2 146 (by decide +kernel)), fun _ => rfl⟩, Or.inl rfl⟩
theorem fg_X3_13_6 : pv_FG RX3 13 6 1 (.int) := fl_X3_13_6.g
theorem fl_X3_13_9 : pv_FL RX3 13 9 1 (.int) true := ⟨(RX9, TX9, 5), "TwoRopes$Dance", rfl, by decide, rfl, rfl, Or.inl ⟨(pv_wg2 146 (by decide +kernel)), fun _ => rfl⟩, Or.inl rfl⟩
theorem fg_X3_13_9 : pv_FG RX3 13 9 1 (.int) := fl_X3_13_9.g
theorem fl_X3_13_10 : pv_FL RX3 13 10 1 (.int) true := ⟨(RX10, TX10, 5), "TwoRopes$Dance", rfl, by decide, rfl, rfl, Or.inl ⟨(pv_wg2 146 (by decide +kernel)), fun _ => rfl⟩, Or.inl rfl⟩
theorem fg_X3_13_10 : pv_FG RX3 13 10 1 (.int) := fl_X3_13_10.g
theorem fg_X5_24_0 : pv_FG RX5 24 0 1 (.int) := ⟨(RX0, TX0, 5), "TwoRopes$Many", rfl, by decide, rfl, Or.inl (pv_wg2 147 (by decide +kernel)), Or.inr (pv_wg2 148 (by decide +kernel))⟩
theorem fg_X5_24_1 : pv_FG RX5 24 1 1 (.int) := ⟨(RX1, TX1, 5), "TwoRopes$Many", rfl, by decide, rfl, Or.inl (pv_wg2 147 (by decide +kernel)), Or.inr (pv_wg2 148 (by decide +kernel))⟩
theorem fg_X5_24_3 : pv_FG RX5 24 3 1 (.int) := ⟨(RX3, TX3, 5), "TwoRopes$Many", rfl, by decide, rfl, Or.inl (pv_wg2 147 (by decide +kernel)), Or.inr (pv_wg2 148 (by decide +kernel))⟩
theorem fg_X5_24_5 : pv_FG RX5 24 5 1 (.int) := ⟨(RX5, TX5, 5), "TwoRopes$Many", rfl, by decide, rfl, Or.inl (pv_wg2 147 (by decide +kernel)), Or.inr (pv_wg2 148 (by decide +kernel))⟩
theorem fg_X5_24_6 : pv_FG RX5 24 6 1 (.int) := ⟨(RX6, TX6, 5), "TwoRopes$Many", rfl, by decide, rfl, Or.inl (pv_wg2 147 (by decide +kernel)), Or.inr (pv_wg2 148 (by decide +kernel))⟩
theorem fg_X5_24_9 : pv_FG RX5 24 9 1 (.int) := ⟨(RX9, TX9, 5), "TwoRopes$Many", rfl, by decide, rfl, Or.inl (pv_wg2 147 (by decide +kernel)), Or.inr (pv_wg2 148 (by decide +kernel))⟩
theorem fg_X5_24_10 : pv_FG RX5 24 10 1 (.int) := ⟨(RX10, TX10, 5), "TwoRopes$Many", rfl, by decide, rfl, Or.inl (pv_wg2 147 (by decide +kernel)), Or.inr (pv_wg2 148 (by decide +kernel))⟩
theorem fl_X3_16_0 : pv_FL RX3 16 0 2 (.int) true := ⟨(RX0, TX0, 5), "TwoRopes$Dance", rfl, by decide, rfl, rfl, Or.inl ⟨(pv_wg2 149 (by decide +kernel)), fun _ => rfl⟩, Or.inl rfl⟩
theorem fg_X3_16_0 : pv_FG RX3 16 0 2 (.int) := fl_X3_16_0.g
theorem fl_X3_16_1 : pv_FL RX3 16 1 2 (.int) true := ⟨(RX1, TX1, 5), "TwoRopes$Dance", rfl, by decide, rfl, rfl, Or.inl ⟨(pv_wg2 149 (by decide +kernel)), fun _ => rfl⟩, Or.inl rfl⟩
theorem fg_X3_16_1 : pv_FG RX3 16 1 2 (.int) := fl_X3_16_1.g
theorem fl_X3_16_3 : pv_FL RX3 16 3 2 (.int) true := ⟨(RX3, TX3, 5), "TwoRopes$Dance", rfl, by decide, rfl, rfl, Or.inl ⟨(pv_wg2 149 (by decide +kernel)), fun _ => rfl⟩, Or.inl rfl⟩
theorem fg_X3_16_3 : pv_FG RX3 16 3 2 (.int) := fl_X3_16_3.g
theorem fl_X3_16_5 : pv_FL RX3 16 5 2 (.int) true := ⟨(RX5, TX5, 5), "TwoRopes$Dance", rfl, by decide, rfl, rfl, Or.inl ⟨(pv_wg2 149 (by decide +kernel)), fun _ => rfl⟩, Or.inl rfl⟩
theorem fg_X3_16_5 : pv_FG RX3 16 5 2 (.int) := fl_X3_16_5.g
theorem fl_X3_16_6 : pv_FL RX3 16 6 2 (.int) true := ⟨(RX6, TX6, 5), "TwoRopes$Dance", rfl, by decide, rfl, rfl, Or.inl ⟨(pv_wg2 149 (by decide +kernel)), fun _ => rfl⟩, Or.inl rfl⟩
theorem fg_X3_16_6 : pv_FG RX3 16 6 2 (.int) := fl_X3_16_6.g
theorem fl_X3_16_9 : pv_FL RX3 16 9 2 (.int) true := ⟨(RX9, TX9, 5), "TwoRopes$Dance", rfl, by decide, rfl, rfl, Or.inl ⟨(pv_wg2 149 (by decide +kernel)), fun _ => rfl⟩, Or.inl rfl⟩
theorem fg_X3_16_9 : pv_FG RX3 16 9 2 (.int) := fl_X3_16_9.g
theorem fl_X3_16_10 : pv_FL RX3 16 10 2 (.int) true := ⟨(RX10, TX10, 5), "TwoRopes$Dance", rfl, by decide, rfl, rfl, Or.inl ⟨(pv_wg2 149 (by decide +kernel)), fun _ => rfl⟩, Or.inl rfl⟩
theorem fg_X3_16_10 : pv_FG RX3 16 10 2 (.int) := fl_X3_16_10.g
theorem fg_X6_7_0 : pv_FG RX6 7 0 2 (.int) := ⟨(RX0, TX0, 5), "TwoRopes$Round", rfl, by decide, rfl, Or.inl (pv_wg2 150 (by decide +kernel)), Or.inr (pv_wg2 151 (by decide +kernel))⟩
theorem fg_X6_7_1 : pv_FG RX6 7 1 2 (.int) := ⟨(RX1, TX1, 5), "TwoRopes$Round", rfl, by decide, rfl, Or.inl (pv_wg2 150 (by decide +kernel)), Or.inr (pv_wg2 151 (by decide +kernel))⟩
theorem fg_X6_7_3 : pv_FG RX6 7 3 2 (.int) := ⟨(RX3, TX3, 5), "TwoRopes$Round", rfl, by decide, rfl, Or.inl (pv_wg2 150 (by decide +kernel)), Or.inr (pv_wg2 151 (by decide +kernel))⟩
theorem fg_X6_7_5 : pv_FG RX6 7 5 2 (.int) := ⟨(RX5, TX5, 5), "TwoRopes$Round", rfl, by decide, rfl, Or.inl (pv_wg2 150 (by decide +kernel)), Or.inr (pv_wg2 151 (by decide +kernel))⟩
theorem fg_X6_7_6 : pv_FG RX6 7 6 2 (.int) := ⟨(RX6, TX6, 5), "TwoRopes$Round", rfl, by decide, rfl, Or.inl (pv_wg2 150 (by decide +kernel)), Or.inr (pv_wg2 151 (by decide +kernel))⟩
theorem fg_X6_7_9 : pv_FG RX6 7 9 2 (.int) := ⟨(RX9, TX9, 5), "TwoRopes$Round", rfl, by decide, rfl, Or.inl (pv_wg2 150 (by decide +kernel)), Or.inr (pv_wg2 151 (by decide +kernel))⟩
theorem fg_X6_7_10 : pv_FG RX6 7 10 2 (.int) := ⟨(RX10, TX10, 5), "TwoRopes$Round", rfl, by decide, rfl, Or.inl (pv_wg2 150 (by decide +kernel)), Or.inr (pv_wg2 151 (by decide +kernel))⟩
theorem fg_X5_7_0 : pv_FG RX5 7 0 2 (.int) := ⟨(RX0, TX0, 5), "TwoRopes$Many", rfl, by decide, rfl, Or.inl (pv_wg2 152 (by decide +kernel)), Or.inr (pv_wg2 153 (by decide +kernel))⟩
theorem fg_X5_7_1 : pv_FG RX5 7 1 2 (.int) := ⟨(RX1, TX1, 5), "TwoRopes$Many", rfl, by decide, rfl, Or.inl (pv_wg2 152 (by decide +kernel)), Or.inr (pv_wg2 153 (by decide +kernel))⟩
theorem fg_X5_7_3 : pv_FG RX5 7 3 2 (.int) := ⟨(RX3, TX3, 5), "TwoRopes$Many", rfl, by decide, rfl, Or.inl (pv_wg2 152 (by decide +kernel)), Or.inr (pv_wg2 153 (by decide +kernel))⟩
theorem fg_X5_7_5 : pv_FG RX5 7 5 2 (.int) := ⟨(RX5, TX5, 5), "TwoRopes$Many", rfl, by decide, rfl, Or.inl (pv_wg2 152 (by decide +kernel)), Or.inr (pv_wg2 153 (by decide +kernel))⟩
theorem fg_X5_7_6 : pv_FG RX5 7 6 2 (.int) := ⟨(RX6, TX6, 5), "TwoRopes$Many", rfl, by decide, rfl, Or.inl (pv_wg2 152 (by decide +kernel)), Or.inr (pv_wg2 153 (by decide +kernel))⟩
theorem fg_X5_7_9 : pv_FG RX5 7 9 2 (.int) := ⟨(RX9, TX9, 5), "TwoRopes$Many", rfl, by decide, rfl, Or.inl (pv_wg2 152 (by decide +kernel)), Or.inr (pv_wg2 153 (by decide +kernel))⟩
theorem fg_X5_7_10 : pv_FG RX5 7 10 2 (.int) := ⟨(RX10, TX10, 5), "TwoRopes$Many", rfl, by decide, rfl, Or.inl (pv_wg2 152 (by decide +kernel)), Or.inr (pv_wg2 153 (by decide +kernel))⟩
theorem fg_X1_27_0 : pv_FG RX1 27 0 2 (.int) := ⟨(RX0, TX0, 5), "TwoRopes$Change", rfl, by decide, rfl, Or.inl (pv_wg2 154 (by decide +kernel)), Or.inr (pv_wg2 155 (by decide +kernel))⟩
theorem fg_X1_27_1 : pv_FG RX1 27 1 2 (.int) := ⟨(RX1, TX1, 5), "TwoRopes$Change", rfl, by decide, rfl, Or.inl (pv_wg2 154 (by decide +kernel)), Or.inr (pv_wg2 155 (by decide +kernel))⟩
theorem fg_X1_27_3 : pv_FG RX1 27 3 2 (.int) := ⟨(RX3, TX3, 5), "TwoRopes$Change", rfl, by decide, rfl, Or.inl (pv_wg2 154 (by decide +kernel)), Or.inr (pv_wg2 155 (by decide +kernel))⟩
theorem fg_X1_27_5 : pv_FG RX1 27 5 2 (.int) := ⟨(RX5, TX5, 5), "TwoRopes$Change", rfl, by decide, rfl, Or.inl (pv_wg2 154 (by decide +kernel)), Or.inr (pv_wg2 155 (by decide +kernel))⟩
theorem fg_X1_27_6 : pv_FG RX1 27 6 2 (.int) := ⟨(RX6, TX6, 5), "TwoRopes$Change", rfl, by decide, rfl, Or.inl (pv_wg2 154 (by decide +kernel)), Or.inr (pv_wg2 155 (by decide +kernel))⟩
theorem fg_X1_27_9 : pv_FG RX1 27 9 2 (.int) := ⟨(RX9, TX9, 5), "TwoRopes$Change", rfl, by decide, rfl, Or.inl (pv_wg2 154 (by decide +kernel)), Or.inr (pv_wg2 155 (by decide +kernel))⟩
theorem fg_X1_27_10 : pv_FG RX1 27 10 2 (.int) := ⟨(RX10, TX10, 5), "TwoRopes$Change", rfl, by decide, rfl, Or.inl (pv_wg2 154 (by decide +kernel)), Or.inr (pv_wg2 155 (by decide +kernel))⟩
theorem fg_X11_158_0 : pv_FG RX11 158 0 2 (.int) := ⟨(RX0, TX0, 5), "TwoRopes$Dance", rfl, by decide, rfl, Or.inl (pv_wg2 156 (by decide +kernel)), Or.inl rfl⟩
theorem fg_X11_158_1 : pv_FG RX11 158 1 2 (.int) := ⟨(RX1, TX1, 5), "TwoRopes$Dance", rfl, by decide, rfl, Or.inl (pv_wg2 156 (by decide +kernel)), Or.inl rfl⟩
theorem fg_X11_158_3 : pv_FG RX11 158 3 2 (.int) := ⟨(RX3, TX3, 5), "TwoRopes$Dance", rfl, by decide, rfl, Or.inl (pv_wg2 156 (by decide +kernel)), Or.inl rfl⟩
theorem fg_X11_158_5 : pv_FG RX11 158 5 2 (.int) := ⟨(RX5, TX5, 5), "TwoRopes$Dance", rfl, by decide, rfl, Or.inl (pv_wg2 156 (by decide +kernel)), Or.inl rfl⟩
theorem fg_X11_158_6 : pv_FG RX11 158 6 2 (.int) := ⟨(RX6, TX6, 5), "TwoRopes$Dance", rfl, by decide, rfl, Or.inl (pv_wg2 156 (by decide +kernel)), Or.inl rfl⟩
theorem fg_X11_158_9 : pv_FG RX11 158 9 2 (.int) := ⟨(RX9, TX9, 5), "TwoRopes$Dance", rfl, by decide, rfl, Or.inl (pv_wg2 156 (by decide +kernel)), Or.inl rfl⟩
theorem fg_X11_158_10 : pv_FG RX11 158 10 2 (.int) := ⟨(RX10, TX10, 5), "TwoRopes$Dance", rfl, by decide, rfl, Or.inl (pv_wg2 156 (by decide +kernel)), Or.inl rfl⟩
theorem fl_X3_19_0 : pv_FL RX3 19 0 3 (.int) true := ⟨(RX0, TX0, 5), "TwoRopes$Dance", rfl, by decide, rfl, rfl, Or.inl ⟨(pv_wg2 157 (by decide +kernel)), fun _ => rfl⟩, Or.inl rfl⟩
theorem fg_X3_19_0 : pv_FG RX3 19 0 3 (.int) := fl_X3_19_0.g
theorem fl_X3_19_1 : pv_FL RX3 19 1 3 (.int) true := ⟨(RX1, TX1, 5), "TwoRopes$Dance", rfl, by decide, rfl, rfl, Or.inl ⟨(pv_wg2 157 (by decide +kernel)), fun _ => rfl⟩, Or.inl rfl⟩
theorem fg_X3_19_1 : pv_FG RX3 19 1 3 (.int) := fl_X3_19_1.g
theorem fl_X3_19_3 : pv_FL RX3 19 3 3 (.int) true := ⟨(RX3, TX3, 5), "TwoRopes$Dance", rfl, by decide, rfl, rfl, Or.inl ⟨(pv_wg2 157 (by decide +kernel)), fun _ => rfl⟩, Or.inl rfl⟩
theorem fg_X3_19_3 : pv_FG RX3 19 3 3 (.int) := fl_X3_19_3.g
theorem fl_X3_19_5 : pv_FL RX3 19 5 3 (.int) true := ⟨(RX5, TX5, 5), "TwoRopes$Dance", rfl, by decide, rfl, rfl, Or.inl ⟨(pv_wg2 157 (by decide +kernel)), fun _ => rfl⟩, Or.inl rfl⟩
theorem fg_X3_19_5 : pv_FG RX3 19 5 3 (.int) := fl_X3_19_5.g
theorem fl_X3_19_6 : pv_FL RX3 19 6 3 (.int) true := ⟨(RX6, TX6, 5), "TwoRopes$Dance", rfl, by decide, rfl, rfl, Or.inl ⟨(pv_wg2 157 (by decide +kernel)), fun _ => rfl⟩, Or.inl rfl⟩
theorem fg_X3_19_6 : pv_FG RX3 19 6 3 (.int) := fl_X3_19_6.g
theorem fl_X3_19_9 : pv_FL RX3 19 9 3 (.int) true := ⟨(RX9, TX9, 5), "TwoRopes$Dance", rfl, by decide, rfl, rfl, Or.inl ⟨(pv_wg2 157 (by decide +kernel)), fun _ => rfl⟩, Or.inl rfl⟩
theorem fg_X3_19_9 : pv_FG RX3 19 9 3 (.int) := fl_X3_19_9.g
theorem fl_X3_19_10 : pv_FL RX3 19 10 3 (.int) true := ⟨(RX10, TX10, 5), "TwoRopes$Dance", rfl, by decide, rfl, rfl, Or.inl ⟨(pv_wg2 157 (by decide +kernel)), fun _ => rfl⟩, Or.inl rfl⟩
theorem fg_X3_19_10 : pv_FG RX3 19 10 3 (.int) := fl_X3_19_10.g
theorem fg_X4_51_0 : pv_FG RX4 51 0 3 (.int) := ⟨(RX0, TX0, 5), "TwoRopes$Dance", rfl, by decide, rfl, Or.inl (pv_wg2 158 (by decide +kernel)), Or.inl rfl⟩
theorem fg_X4_51_1 : pv_FG RX4 51 1 3 (.int) := ⟨(RX1, TX1, 5), "TwoRopes$Dance", rfl, by decide, rfl, Or.inl (pv_wg2 158 (by decide +kernel)), Or.inl rfl⟩
theorem fg_X4_51_3 : pv_FG RX4 51 3 3 (.int) := ⟨(RX3, TX3, 5), "TwoRopes$Dance", rfl, by decide, rfl, Or.inl (pv_wg2 158 (by decide +kernel)), Or.inl rfl⟩
theorem fg_X4_51_5 : pv_FG RX4 51 5 3 (.int) := ⟨(RX5, TX5, 5), "TwoRopes$Dance", rfl, by decide, rfl, Or.inl (pv_wg2 158 (by decide +kernel)), Or.inl rfl⟩
theorem fg_X4_51_6 : pv_FG RX4 51 6 3 (.int) := ⟨(RX6, TX6, 5), "TwoRopes$Dance", rfl, by decide, rfl, Or.inl (pv_wg2 158 (by decide +kernel)), Or.inl rfl⟩
theorem fg_X4_51_9 : pv_FG RX4 51 9 3 (.int) := ⟨(RX9, TX9, 5), "TwoRopes$Dance", rfl, by decide, rfl, Or.inl (pv_wg2 158 (by decide +kernel)), Or.inl rfl⟩
theorem fg_X4_51_10 : pv_FG RX4 51 10 3 (.int) := ⟨(RX10, TX10, 5), "TwoRopes$Dance", rfl, by decide, rfl, Or.inl (pv_wg2 158 (by decide +kernel)), Or.inl rfl⟩
theorem fg_X11_138_0 : pv_FG RX11 138 0 3 (.int) := ⟨(RX0, TX0, 5), "TwoRopes$Dance", rfl, by decide, rfl, Or.inl (pv_wg2 159 (by decide +kernel)), Or.inl rfl⟩
theorem fg_X11_138_1 : pv_FG RX11 138 1 3 (.int) := ⟨(RX1, TX1, 5), "TwoRopes$Dance", rfl, by decide, rfl, Or.inl (pv_wg2 159 (by decide +kernel)), Or.inl rfl⟩
theorem fg_X11_138_3 : pv_FG RX11 138 3 3 (.int) := ⟨(RX3, TX3, 5), "TwoRopes$Dance", rfl, by decide, rfl, Or.inl (pv_wg2 159 (by decide +kernel)), Or.inl rfl⟩
theorem fg_X11_138_5 : pv_FG RX11 138 5 3 (.int) := ⟨(RX5, TX5, 5), "TwoRopes$Dance", rfl, by decide, rfl, Or.inl (pv_wg2 159 (by decide +kernel)), Or.inl rfl⟩
theorem fg_X11_138_6 : pv_FG RX11 138 6 3 (.int) := ⟨(RX6, TX6, 5), "TwoRopes$Dance", rfl, by decide, rfl, Or.inl (pv_wg2 159 (by decide +kernel)), Or.inl rfl⟩
theorem fg_X11_138_9 : pv_FG RX11 138 9 3 (.int) := ⟨(RX9, TX9, 5), "TwoRopes$Dance", rfl, by decide, rfl, Or.inl (pv_wg2 159 (by decide +kernel)), Or.inl rfl⟩
theorem fg_X11_138_10 : pv_FG RX11 138 10 3 (.int) := ⟨(RX10, TX10, 5), "TwoRopes$Dance", rfl, by decide, rfl, Or.inl (pv_wg2 159 (by decide +kernel)), Or.inl rfl⟩
theorem fl_X3_22_0 : pv_FL RX3 22 0 4 (.array .int) true := ⟨(RX0, TX0, 5), "TwoRopes$Dance", rfl, by decide, rfl, rfl, Or.inl ⟨(pv_wg2 160 (by decide +kernel)), fun _ => rfl⟩, Or.inl rfl⟩
theorem fg_X3_22_0 : pv_FG RX3 22 0 4 (.array .int) := fl_X3_22_0.g
theorem fl_X3_22_1 : pv_FL RX3 22 1 4 (.array .int) true := ⟨(RX1, TX1, 5), "TwoRopes$Dance", rfl, by decide, rfl, rfl, Or.inl ⟨(pv_wg2 160 (by decide +kernel)), fun _ => rfl⟩, Or.inl rfl⟩
theorem fg_X3_22_1 : pv_FG RX3 22 1 4 (.array .int) := fl_X3_22_1.g
theorem fl_X3_22_3 : pv_FL RX3 22 3 4 (.array .int) true := ⟨(RX3, TX3, 5), "TwoRopes$Dance", rfl, by decide, rfl, rfl, Or.inl ⟨(pv_wg2 160 (by decide +kernel)), fun _ => rfl⟩, Or.inl rfl⟩
theorem fg_X3_22_3 : pv_FG RX3 22 3 4 (.array .int) := fl_X3_22_3.g
theorem fl_X3_22_5 : pv_FL RX3 22 5 4 (.array .int) true := ⟨(RX5, TX5, 5), "TwoRopes$Dance", rfl, by decide, rfl, rfl, Or.inl ⟨(pv_wg2 160 (by decide +kernel)), fun _ => rfl⟩, Or.inl rfl⟩
theorem fg_X3_22_5 : pv_FG RX3 22 5 4 (.array .int) := fl_X3_22_5.g
theorem fl_X3_22_6 : pv_FL RX3 22 6 4 (.array .int) true := ⟨(RX6, TX6, 5), "TwoRopes$Dance", rfl, by decide, rfl, rfl, Or.inl ⟨(pv_wg2 160 (by decide +kernel)), fun _ => rfl⟩, Or.inl rfl⟩
theorem fg_X3_22_6 : pv_FG RX3 22 6 4 (.array .int) := fl_X3_22_6.g
theorem fl_X3_22_9 : pv_FL RX3 22 9 4 (.array .int) true := ⟨(RX9, TX9, 5), "TwoRopes$Dance", rfl, by decide, rfl, rfl, Or.inl ⟨(pv_wg2 160 (by decide +kernel)), fun _ => rfl⟩, Or.inl rfl⟩
theorem fg_X3_22_9 : pv_FG RX3 22 9 4 (.array .int) := fl_X3_22_9.g
theorem fl_X3_22_10 : pv_FL RX3 22 10 4 (.array .int) true := ⟨(RX10, TX10, 5), "TwoRopes$Dance", rfl, by decide, rfl, rfl, Or.inl ⟨(pv_wg2 160 (by decide +kernel)), fun _ => rfl⟩, Or.inl rfl⟩
theorem fg_X3_22_10 : pv_FG RX3 22 10 4 (.array .int) := fl_X3_22_10.g
theorem fl_X12_108_12 : pv_FL RX12 108 12 0 (.int) false := ⟨(RX12, TX12, 61), "TwoRopesModel", rfl, by decide, rfl, rfl, Or.inl ⟨(pv_wg5 110 (by decide +kernel)), fun h => by cases h⟩, Or.inl rfl⟩
theorem fg_X12_108_12 : pv_FG RX12 108 12 0 (.int) := fl_X12_108_12.g
theorem fl_X12_213_12 : pv_FL RX12 213 12 1 (.int) false := ⟨(RX12, TX12, 61), "TwoRopesModel", rfl, by decide, rfl, rfl, Or.inl ⟨(pv_wg5 111 (by decide +kernel)), fun h => by cases h⟩, Or.inl rfl⟩
theorem fg_X12_213_12 : pv_FG RX12 213 12 1 (.int) := fl_X12_213_12.g
theorem fl_X12_216_12 : pv_FL RX12 216 12 2 (.int) false := ⟨(RX12, TX12, 61), "TwoRopesModel", rfl, by decide, rfl, rfl, Or.inl ⟨(pv_wg5 112 (by decide +kernel)), fun h => by cases h⟩, Or.inl rfl⟩
theorem fg_X12_216_12 : pv_FG RX12 216 12 2 (.int) := fl_X12_216_12.g
theorem fl_X12_7_12 : pv_FL RX12 7 12 3 (.int) false := ⟨(RX12, TX12, 61), "TwoRopesModel", rfl, by decide, rfl, rfl, Or.inl ⟨(pv_wg5 113 (by decide +kernel)), fun h => by cases h⟩, Or.inl rfl⟩
theorem fg_X12_7_12 : pv_FG RX12 7 12 3 (.int) := fl_X12_7_12.g
theorem fl_X12_13_12 : pv_FL RX12 13 12 4 (.int) false := ⟨(RX12, TX12, 61), "TwoRopesModel", rfl, by decide, rfl, rfl, Or.inl ⟨(pv_wg5 114 (by decide +kernel)), fun h => by cases h⟩, Or.inl rfl⟩
theorem fg_X12_13_12 : pv_FG RX12 13 12 4 (.int) := fl_X12_13_12.g
theorem fl_X12_147_12 : pv_FL RX12 147 12 5 (.long) false := ⟨(RX12, TX12, 61), "TwoRopesModel", rfl, by decide, rfl, rfl, Or.inl ⟨(pv_wg5 115 (by decide +kernel)), fun h => by cases h⟩, Or.inl rfl⟩
theorem fg_X12_147_12 : pv_FG RX12 147 12 5 (.long) := fl_X12_147_12.g
theorem fl_X12_16_12 : pv_FL RX12 16 12 6 (.long) false := ⟨(RX12, TX12, 61), "TwoRopesModel", rfl, by decide, rfl, rfl, Or.inl ⟨(pv_wg5 116 (by decide +kernel)), fun h => by cases h⟩, Or.inl rfl⟩
theorem fg_X12_16_12 : pv_FG RX12 16 12 6 (.long) := fl_X12_16_12.g
theorem fl_X12_20_12 : pv_FL RX12 20 12 7 (.array .int) true := ⟨(RX12, TX12, 61), "TwoRopesModel", rfl, by decide, rfl, rfl, Or.inl ⟨(pv_wg5 117 (by decide +kernel)), fun _ => rfl⟩, Or.inl rfl⟩
theorem fg_X12_20_12 : pv_FG RX12 20 12 7 (.array .int) := fl_X12_20_12.g
theorem fl_X12_24_12 : pv_FL RX12 24 12 8 (.array .int) true := ⟨(RX12, TX12, 61), "TwoRopesModel", rfl, by decide, rfl, rfl, Or.inl ⟨(pv_wg5 118 (by decide +kernel)), fun _ => rfl⟩, Or.inl rfl⟩
theorem fg_X12_24_12 : pv_FG RX12 24 12 8 (.array .int) := fl_X12_24_12.g
theorem fl_X12_27_12 : pv_FL RX12 27 12 9 (.array .int) true := ⟨(RX12, TX12, 61), "TwoRopesModel", rfl, by decide, rfl, rfl, Or.inl ⟨(pv_wg5 119 (by decide +kernel)), fun _ => rfl⟩, Or.inl rfl⟩
theorem fg_X12_27_12 : pv_FG RX12 27 12 9 (.array .int) := fl_X12_27_12.g
theorem fl_X12_30_12 : pv_FL RX12 30 12 10 (.array .int) true := ⟨(RX12, TX12, 61), "TwoRopesModel", rfl, by decide, rfl, rfl, Or.inl ⟨(pv_wg5 120 (by decide +kernel)), fun _ => rfl⟩, Or.inl rfl⟩
theorem fg_X12_30_12 : pv_FG RX12 30 12 10 (.array .int) := fl_X12_30_12.g
theorem fl_X12_33_12 : pv_FL RX12 33 12 11 (.array .int) true := ⟨(RX12, TX12, 61), "TwoRopesModel", rfl, by decide, rfl, rfl, Or.inl ⟨(pv_wg5 121 (by decide +kernel)), fun _ => rfl⟩, Or.inl rfl⟩
theorem fg_X12_33_12 : pv_FG RX12 33 12 11 (.array .int) := fl_X12_33_12.g
theorem fl_X12_36_12 : pv_FL RX12 36 12 12 (.array .int) true := ⟨(RX12, TX12, 61), "TwoRopesModel", rfl, by decide, rfl, rfl, Or.inl ⟨(pv_wg5 122 (by decide +kernel)), fun _ => rfl⟩, Or.inl rfl⟩
theorem fg_X12_36_12 : pv_FG RX12 36 12 12 (.array .int) := fl_X12_36_12.g
theorem fl_X12_39_12 : pv_FL RX12 39 12 13 (.array .int) true := ⟨(RX12, TX12, 61), "TwoRopesModel", rfl, by decide, rfl, rfl, Or.inl ⟨(pv_wg5 123 (by decide +kernel)), fun _ => rfl⟩, Or.inl rfl⟩
theorem fg_X12_39_12 : pv_FG RX12 39 12 13 (.array .int) := fl_X12_39_12.g
theorem fl_X12_42_12 : pv_FL RX12 42 12 14 (.array .int) true := ⟨(RX12, TX12, 61), "TwoRopesModel", rfl, by decide, rfl, rfl, Or.inl ⟨(pv_wg5 124 (by decide +kernel)), fun _ => rfl⟩, Or.inl rfl⟩
theorem fg_X12_42_12 : pv_FG RX12 42 12 14 (.array .int) := fl_X12_42_12.g
theorem fl_X12_45_12 : pv_FL RX12 45 12 15 (.array .int) true := ⟨(RX12, TX12, 61), "TwoRopesModel", rfl, by decide, rfl, rfl, Or.inl ⟨(pv_wg5 125 (by decide +kernel)), fun _ => rfl⟩, Or.inl rfl⟩
theorem fg_X12_45_12 : pv_FG RX12 45 12 15 (.array .int) := fl_X12_45_12.g
theorem fl_X12_48_12 : pv_FL RX12 48 12 16 (.array .long) true := ⟨(RX12, TX12, 61), "TwoRopesModel", rfl, by decide, rfl, rfl, Or.inl ⟨(pv_wg5 126 (by decide +kernel)), fun _ => rfl⟩, Or.inl rfl⟩
theorem fg_X12_48_12 : pv_FG RX12 48 12 16 (.array .long) := fl_X12_48_12.g
theorem fl_X12_52_12 : pv_FL RX12 52 12 17 (.array .long) true := ⟨(RX12, TX12, 61), "TwoRopesModel", rfl, by decide, rfl, rfl, Or.inl ⟨(pv_wg5 127 (by decide +kernel)), fun _ => rfl⟩, Or.inl rfl⟩
theorem fg_X12_52_12 : pv_FG RX12 52 12 17 (.array .long) := fl_X12_52_12.g
theorem fl_X12_150_12 : pv_FL RX12 150 12 18 (.long) false := ⟨(RX12, TX12, 61), "TwoRopesModel", rfl, by decide, rfl, rfl, Or.inl ⟨(pv_wg5 128 (by decide +kernel)), fun h => by cases h⟩, Or.inl rfl⟩
theorem fg_X12_150_12 : pv_FG RX12 150 12 18 (.long) := fl_X12_150_12.g
theorem fl_X12_153_12 : pv_FL RX12 153 12 19 (.long) false := ⟨(RX12, TX12, 61), "TwoRopesModel", rfl, by decide, rfl, rfl, Or.inl ⟨(pv_wg5 129 (by decide +kernel)), fun h => by cases h⟩, Or.inl rfl⟩
theorem fg_X12_153_12 : pv_FG RX12 153 12 19 (.long) := fl_X12_153_12.g
theorem fl_X12_55_12 : pv_FL RX12 55 12 20 (.array .int) true := ⟨(RX12, TX12, 61), "TwoRopesModel", rfl, by decide, rfl, rfl, Or.inl ⟨(pv_wg5 130 (by decide +kernel)), fun _ => rfl⟩, Or.inl rfl⟩
theorem fg_X12_55_12 : pv_FG RX12 55 12 20 (.array .int) := fl_X12_55_12.g
theorem fl_X12_58_12 : pv_FL RX12 58 12 21 (.array .int) true := ⟨(RX12, TX12, 61), "TwoRopesModel", rfl, by decide, rfl, rfl, Or.inl ⟨(pv_wg5 131 (by decide +kernel)), fun _ => rfl⟩, Or.inl rfl⟩
theorem fg_X12_58_12 : pv_FG RX12 58 12 21 (.array .int) := fl_X12_58_12.g
theorem fl_X12_61_12 : pv_FL RX12 61 12 22 (.array .int) true := ⟨(RX12, TX12, 61), "TwoRopesModel", rfl, by decide, rfl, rfl, Or.inl ⟨(pv_wg5 132 (by decide +kernel)), fun _ => rfl⟩, Or.inl rfl⟩
theorem fg_X12_61_12 : pv_FG RX12 61 12 22 (.array .int) := fl_X12_61_12.g
theorem fl_X12_175_12 : pv_FL RX12 175 12 23 (.int) false := ⟨(RX12, TX12, 61), "TwoRopesModel", rfl, by decide, rfl, rfl, Or.inl ⟨(pv_wg5 133 (by decide +kernel)), fun h => by cases h⟩, Or.inl rfl⟩
theorem fg_X12_175_12 : pv_FG RX12 175 12 23 (.int) := fl_X12_175_12.g
theorem fl_X12_169_12 : pv_FL RX12 169 12 24 (.int) false := ⟨(RX12, TX12, 61), "TwoRopesModel", rfl, by decide, rfl, rfl, Or.inl ⟨(pv_wg5 134 (by decide +kernel)), fun h => by cases h⟩, Or.inl rfl⟩
theorem fg_X12_169_12 : pv_FG RX12 169 12 24 (.int) := fl_X12_169_12.g
theorem fl_X12_172_12 : pv_FL RX12 172 12 25 (.int) false := ⟨(RX12, TX12, 61), "TwoRopesModel", rfl, by decide, rfl, rfl, Or.inl ⟨(pv_wg5 135 (by decide +kernel)), fun h => by cases h⟩, Or.inl rfl⟩
theorem fg_X12_172_12 : pv_FG RX12 172 12 25 (.int) := fl_X12_172_12.g
theorem fl_X12_178_12 : pv_FL RX12 178 12 26 (.int) false := ⟨(RX12, TX12, 61), "TwoRopesModel", rfl, by decide, rfl, rfl, Or.inl ⟨(pv_wg5 136 (by decide +kernel)), fun h => by cases h⟩, Or.inl rfl⟩
theorem fg_X12_178_12 : pv_FG RX12 178 12 26 (.int) := fl_X12_178_12.g
theorem fl_X12_166_12 : pv_FL RX12 166 12 27 (.int) false := ⟨(RX12, TX12, 61), "TwoRopesModel", rfl, by decide, rfl, rfl, Or.inl ⟨(pv_wg5 137 (by decide +kernel)), fun h => by cases h⟩, Or.inl rfl⟩
theorem fg_X12_166_12 : pv_FG RX12 166 12 27 (.int) := fl_X12_166_12.g
theorem fl_X12_64_12 : pv_FL RX12 64 12 28 (.array .int) true := ⟨(RX12, TX12, 61), "TwoRopesModel", rfl, by decide, rfl, rfl, Or.inl ⟨(pv_wg5 138 (by decide +kernel)), fun _ => rfl⟩, Or.inl rfl⟩
theorem fg_X12_64_12 : pv_FG RX12 64 12 28 (.array .int) := fl_X12_64_12.g
theorem fl_X12_67_12 : pv_FL RX12 67 12 29 (.array .int) true := ⟨(RX12, TX12, 61), "TwoRopesModel", rfl, by decide, rfl, rfl, Or.inl ⟨(pv_wg5 139 (by decide +kernel)), fun _ => rfl⟩, Or.inl rfl⟩
theorem fg_X12_67_12 : pv_FG RX12 67 12 29 (.array .int) := fl_X12_67_12.g
theorem fl_X12_70_12 : pv_FL RX12 70 12 30 (.array .long) true := ⟨(RX12, TX12, 61), "TwoRopesModel", rfl, by decide, rfl, rfl, Or.inl ⟨(pv_wg5 140 (by decide +kernel)), fun _ => rfl⟩, Or.inl rfl⟩
theorem fg_X12_70_12 : pv_FG RX12 70 12 30 (.array .long) := fl_X12_70_12.g
theorem fl_X12_73_12 : pv_FL RX12 73 12 31 (.array .long) true := ⟨(RX12, TX12, 61), "TwoRopesModel", rfl, by decide, rfl, rfl, Or.inl ⟨(pv_wg5 141 (by decide +kernel)), fun _ => rfl⟩, Or.inl rfl⟩
theorem fg_X12_73_12 : pv_FG RX12 73 12 31 (.array .long) := fl_X12_73_12.g
theorem fl_X12_245_12 : pv_FL RX12 245 12 32 (.int) false := ⟨(RX12, TX12, 61), "TwoRopesModel", rfl, by decide, rfl, rfl, Or.inl ⟨(pv_wg5 142 (by decide +kernel)), fun h => by cases h⟩, Or.inl rfl⟩
theorem fg_X12_245_12 : pv_FG RX12 245 12 32 (.int) := fl_X12_245_12.g
theorem fl_X12_248_12 : pv_FL RX12 248 12 33 (.int) false := ⟨(RX12, TX12, 61), "TwoRopesModel", rfl, by decide, rfl, rfl, Or.inl ⟨(pv_wg5 143 (by decide +kernel)), fun h => by cases h⟩, Or.inl rfl⟩
theorem fg_X12_248_12 : pv_FG RX12 248 12 33 (.int) := fl_X12_248_12.g
theorem fl_X12_76_12 : pv_FL RX12 76 12 34 (.array .int) true := ⟨(RX12, TX12, 61), "TwoRopesModel", rfl, by decide, rfl, rfl, Or.inl ⟨(pv_wg5 144 (by decide +kernel)), fun _ => rfl⟩, Or.inl rfl⟩
theorem fg_X12_76_12 : pv_FG RX12 76 12 34 (.array .int) := fl_X12_76_12.g
theorem fl_X12_260_12 : pv_FL RX12 260 12 35 (.long) false := ⟨(RX12, TX12, 61), "TwoRopesModel", rfl, by decide, rfl, rfl, Or.inl ⟨(pv_wg5 145 (by decide +kernel)), fun h => by cases h⟩, Or.inl rfl⟩
theorem fg_X12_260_12 : pv_FG RX12 260 12 35 (.long) := fl_X12_260_12.g
theorem fl_X12_263_12 : pv_FL RX12 263 12 36 (.int) false := ⟨(RX12, TX12, 61), "TwoRopesModel", rfl, by decide, rfl, rfl, Or.inl ⟨(pv_wg5 146 (by decide +kernel)), fun h => by cases h⟩, Or.inl rfl⟩
theorem fg_X12_263_12 : pv_FG RX12 263 12 36 (.int) := fl_X12_263_12.g
theorem fl_X12_79_12 : pv_FL RX12 79 12 37 (.array .int) true := ⟨(RX12, TX12, 61), "TwoRopesModel", rfl, by decide, rfl, rfl, Or.inl ⟨(pv_wg5 147 (by decide +kernel)), fun _ => rfl⟩, Or.inl rfl⟩
theorem fg_X12_79_12 : pv_FG RX12 79 12 37 (.array .int) := fl_X12_79_12.g
theorem fl_X12_82_12 : pv_FL RX12 82 12 38 (.array .int) true := ⟨(RX12, TX12, 61), "TwoRopesModel", rfl, by decide, rfl, rfl, Or.inl ⟨(pv_wg5 148 (by decide +kernel)), fun _ => rfl⟩, Or.inl rfl⟩
theorem fg_X12_82_12 : pv_FG RX12 82 12 38 (.array .int) := fl_X12_82_12.g
theorem fl_X12_298_12 : pv_FL RX12 298 12 39 (.int) false := ⟨(RX12, TX12, 61), "TwoRopesModel", rfl, by decide, rfl, rfl, Or.inl ⟨(pv_wg5 149 (by decide +kernel)), fun h => by cases h⟩, Or.inl rfl⟩
theorem fg_X12_298_12 : pv_FG RX12 298 12 39 (.int) := fl_X12_298_12.g
theorem fl_X12_301_12 : pv_FL RX12 301 12 40 (.int) false := ⟨(RX12, TX12, 61), "TwoRopesModel", rfl, by decide, rfl, rfl, Or.inl ⟨(pv_wg5 150 (by decide +kernel)), fun h => by cases h⟩, Or.inl rfl⟩
theorem fg_X12_301_12 : pv_FG RX12 301 12 40 (.int) := fl_X12_301_12.g
theorem fl_X12_304_12 : pv_FL RX12 304 12 41 (.int) false := ⟨(RX12, TX12, 61), "TwoRopesModel", rfl, by decide, rfl, rfl, Or.inl ⟨(pv_wg5 151 (by decide +kernel)), fun h => by cases h⟩, Or.inl rfl⟩
theorem fg_X12_304_12 : pv_FG RX12 304 12 41 (.int) := fl_X12_304_12.g
theorem fl_X12_307_12 : pv_FL RX12 307 12 42 (.int) false := ⟨(RX12, TX12, 61), "TwoRopesModel", rfl, by decide, rfl, rfl, Or.inl ⟨(pv_wg5 152 (by decide +kernel)), fun h => by cases h⟩, Or.inl rfl⟩
theorem fg_X12_307_12 : pv_FG RX12 307 12 42 (.int) := fl_X12_307_12.g
theorem fl_X12_310_12 : pv_FL RX12 310 12 43 (.int) false := ⟨(RX12, TX12, 61), "TwoRopesModel", rfl, by decide, rfl, rfl, Or.inl ⟨(pv_wg5 153 (by decide +kernel)), fun h => by cases h⟩, Or.inl rfl⟩
theorem fg_X12_310_12 : pv_FG RX12 310 12 43 (.int) := fl_X12_310_12.g
theorem fl_X12_365_12 : pv_FL RX12 365 12 44 (.int) false := ⟨(RX12, TX12, 61), "TwoRopesModel", rfl, by decide, rfl, rfl, Or.inl ⟨(pv_wg5 154 (by decide +kernel)), fun h => by cases h⟩, Or.inl rfl⟩
theorem fg_X12_365_12 : pv_FG RX12 365 12 44 (.int) := fl_X12_365_12.g
theorem fl_X12_280_12 : pv_FL RX12 280 12 45 (.long) false := ⟨(RX12, TX12, 61), "TwoRopesModel", rfl, by decide, rfl, rfl, Or.inl ⟨(pv_wg5 155 (by decide +kernel)), fun h => by cases h⟩, Or.inl rfl⟩
theorem fg_X12_280_12 : pv_FG RX12 280 12 45 (.long) := fl_X12_280_12.g
theorem fl_X12_283_12 : pv_FL RX12 283 12 46 (.long) false := ⟨(RX12, TX12, 61), "TwoRopesModel", rfl, by decide, rfl, rfl, Or.inl ⟨(pv_wg5 156 (by decide +kernel)), fun h => by cases h⟩, Or.inl rfl⟩
theorem fg_X12_283_12 : pv_FG RX12 283 12 46 (.long) := fl_X12_283_12.g
theorem fl_X12_320_12 : pv_FL RX12 320 12 47 (.long) false := ⟨(RX12, TX12, 61), "TwoRopesModel", rfl, by decide, rfl, rfl, Or.inl ⟨(pv_wg5 157 (by decide +kernel)), fun h => by cases h⟩, Or.inl rfl⟩
theorem fg_X12_320_12 : pv_FG RX12 320 12 47 (.long) := fl_X12_320_12.g
theorem fl_X12_323_12 : pv_FL RX12 323 12 48 (.long) false := ⟨(RX12, TX12, 61), "TwoRopesModel", rfl, by decide, rfl, rfl, Or.inl ⟨(pv_wg5 158 (by decide +kernel)), fun h => by cases h⟩, Or.inl rfl⟩
theorem fg_X12_323_12 : pv_FG RX12 323 12 48 (.long) := fl_X12_323_12.g
theorem fl_X12_85_12 : pv_FL RX12 85 12 49 (.array .long) true := ⟨(RX12, TX12, 61), "TwoRopesModel", rfl, by decide, rfl, rfl, Or.inl ⟨(pv_wg5 159 (by decide +kernel)), fun _ => rfl⟩, Or.inl rfl⟩
theorem fg_X12_85_12 : pv_FG RX12 85 12 49 (.array .long) := fl_X12_85_12.g
theorem fl_X12_88_12 : pv_FL RX12 88 12 50 (.array .long) true := ⟨(RX12, TX12, 61), "TwoRopesModel", rfl, by decide, rfl, rfl, Or.inl ⟨(pv_wg5 160 (by decide +kernel)), fun _ => rfl⟩, Or.inl rfl⟩
theorem fg_X12_88_12 : pv_FG RX12 88 12 50 (.array .long) := fl_X12_88_12.g
theorem fl_X12_352_12 : pv_FL RX12 352 12 51 (.int) false := ⟨(RX12, TX12, 61), "TwoRopesModel", rfl, by decide, rfl, rfl, Or.inl ⟨(pv_wg5 161 (by decide +kernel)), fun h => by cases h⟩, Or.inl rfl⟩
theorem fg_X12_352_12 : pv_FG RX12 352 12 51 (.int) := fl_X12_352_12.g
theorem fl_X12_91_12 : pv_FL RX12 91 12 52 (.array .long) true := ⟨(RX12, TX12, 61), "TwoRopesModel", rfl, by decide, rfl, rfl, Or.inl ⟨(pv_wg5 162 (by decide +kernel)), fun _ => rfl⟩, Or.inl rfl⟩
theorem fg_X12_91_12 : pv_FG RX12 91 12 52 (.array .long) := fl_X12_91_12.g
theorem fl_X12_94_12 : pv_FL RX12 94 12 53 (.array .long) true := ⟨(RX12, TX12, 61), "TwoRopesModel", rfl, by decide, rfl, rfl, Or.inl ⟨(pv_wg5 163 (by decide +kernel)), fun _ => rfl⟩, Or.inl rfl⟩
theorem fg_X12_94_12 : pv_FG RX12 94 12 53 (.array .long) := fl_X12_94_12.g
theorem fl_X12_97_12 : pv_FL RX12 97 12 54 (.array .long) true := ⟨(RX12, TX12, 61), "TwoRopesModel", rfl, by decide, rfl, rfl, Or.inl ⟨(pv_wg5 164 (by decide +kernel)), fun _ => rfl⟩, Or.inl rfl⟩
theorem fg_X12_97_12 : pv_FG RX12 97 12 54 (.array .long) := fl_X12_97_12.g
theorem fl_X12_100_12 : pv_FL RX12 100 12 55 (.array .long) true := ⟨(RX12, TX12, 61), "TwoRopesModel", rfl, by decide, rfl, rfl, Or.inl ⟨(pv_wg5 165 (by decide +kernel)), fun _ => rfl⟩, Or.inl rfl⟩
theorem fg_X12_100_12 : pv_FG RX12 100 12 55 (.array .long) := fl_X12_100_12.g
theorem fl_X12_377_12 : pv_FL RX12 377 12 56 (.int) false := ⟨(RX12, TX12, 61), "TwoRopesModel", rfl, by decide, rfl, rfl, Or.inl ⟨(pv_wg5 166 (by decide +kernel)), fun h => by cases h⟩, Or.inl rfl⟩
theorem fg_X12_377_12 : pv_FG RX12 377 12 56 (.int) := fl_X12_377_12.g
theorem fl_X12_380_12 : pv_FL RX12 380 12 57 (.int) false := ⟨(RX12, TX12, 61), "TwoRopesModel", rfl, by decide, rfl, rfl, Or.inl ⟨(pv_wg5 167 (by decide +kernel)), fun h => by cases h⟩, Or.inl rfl⟩
theorem fg_X12_380_12 : pv_FG RX12 380 12 57 (.int) := fl_X12_380_12.g
theorem fl_X12_103_12 : pv_FL RX12 103 12 58 (.array .int) true := ⟨(RX12, TX12, 61), "TwoRopesModel", rfl, by decide, rfl, rfl, Or.inl ⟨(pv_wg5 168 (by decide +kernel)), fun _ => rfl⟩, Or.inl rfl⟩
theorem fg_X12_103_12 : pv_FG RX12 103 12 58 (.array .int) := fl_X12_103_12.g
theorem fl_X12_393_12 : pv_FL RX12 393 12 59 (.int) false := ⟨(RX12, TX12, 61), "TwoRopesModel", rfl, by decide, rfl, rfl, Or.inl ⟨(pv_wg5 169 (by decide +kernel)), fun h => by cases h⟩, Or.inl rfl⟩
theorem fg_X12_393_12 : pv_FG RX12 393 12 59 (.int) := fl_X12_393_12.g
theorem fl_X12_408_12 : pv_FL RX12 408 12 60 (.boolean) false := ⟨(RX12, TX12, 61), "TwoRopesModel", rfl, by decide, rfl, rfl, Or.inl ⟨(pv_wg5 170 (by decide +kernel)), fun h => by cases h⟩, Or.inl rfl⟩
theorem fg_X12_408_12 : pv_FG RX12 408 12 60 (.boolean) := fl_X12_408_12.g
theorem ii_L : Cond.initialized RL ∈ lw_g := (pv_wg1 0 (by decide +kernel))
theorem ii_X11 : Cond.initialized RX11 ∈ lw_g := (pv_wg1 1 (by decide +kernel))
theorem ii_X4 : Cond.initialized RX4 ∈ lw_g := (pv_wg1 2 (by decide +kernel))
theorem ii_X7 : Cond.initialized RX7 ∈ lw_g := (pv_wg1 3 (by decide +kernel))
theorem ii_X2 : Cond.initialized RX2 ∈ lw_g := (pv_wg1 4 (by decide +kernel))
theorem ii_X8 : Cond.initialized RX8 ∈ lw_g := (pv_wg1 5 (by decide +kernel))
theorem ii_X12 : Cond.initialized RX12 ∈ lw_g := (pv_wg1 6 (by decide +kernel))
theorem ii_J7 : Cond.initialized RJ7 ∈ lw_g := (pv_wg1 7 (by decide +kernel))
theorem ii_J9 : Cond.initialized RJ9 ∈ lw_g := (pv_wg1 8 (by decide +kernel))
theorem ii_J10 : Cond.initialized RJ10 ∈ lw_g := (pv_wg1 9 (by decide +kernel))
theorem ii_X3 : Cond.initialized RX3 ∈ lw_g := (pv_wg1 10 (by decide +kernel))
theorem ii_X1 : Cond.initialized RX1 ∈ lw_g := (pv_wg1 11 (by decide +kernel))
theorem ii_X10 : Cond.initialized RX10 ∈ lw_g := (pv_wg1 12 (by decide +kernel))
theorem ii_X5 : Cond.initialized RX5 ∈ lw_g := (pv_wg1 13 (by decide +kernel))
theorem ii_X9 : Cond.initialized RX9 ∈ lw_g := (pv_wg1 14 (by decide +kernel))
theorem ii_X0 : Cond.initialized RX0 ∈ lw_g := (pv_wg1 15 (by decide +kernel))
theorem ii_X6 : Cond.initialized RX6 ∈ lw_g := (pv_wg1 16 (by decide +kernel))
theorem ii_J0 : Cond.initialized RJ0 ∈ lw_g := (pv_wg1 17 (by decide +kernel))
theorem ii_J1 : Cond.initialized RJ1 ∈ lw_g := (pv_wg1 18 (by decide +kernel))
theorem ii_J3 : Cond.initialized RJ3 ∈ lw_g := (pv_wg1 19 (by decide +kernel))
theorem ii_J2 : Cond.initialized RJ2 ∈ lw_g := (pv_wg1 20 (by decide +kernel))
theorem ii_J13 : Cond.initialized RJ13 ∈ lw_g := (pv_wg1 21 (by decide +kernel))
theorem ii_J6 : Cond.initialized RJ6 ∈ lw_g := (pv_wg1 22 (by decide +kernel))
theorem cl_L_7 : Cond.classLink RL 7 RX11 ∈ lw_g := (pv_wg1 23 (by decide +kernel))
theorem in_X11 : Cond.instantiable RX11 13 ∈ lw_g := (pv_wg1 24 (by decide +kernel))
theorem cl_X11_9 : Cond.classLink RX11 9 RX8 ∈ lw_g := (pv_wg1 31 (by decide +kernel))
theorem cl_X11_15 : Cond.classLink RX11 15 RX3 ∈ lw_g := (pv_wg1 33 (by decide +kernel))
theorem cl_X11_28 : Cond.classLink RX11 28 RX4 ∈ lw_g := (pv_wg1 35 (by decide +kernel))
theorem in_X4 : Cond.instantiable RX4 7 ∈ lw_g := (pv_wg1 36 (by decide +kernel))
theorem ac_int : Cond.arrayClass .int ∈ lw_g := (pv_wg1 72 (by decide +kernel))
theorem cl_X11_44 : Cond.classLink RX11 44 RX7 ∈ lw_g := (pv_wg1 73 (by decide +kernel))
theorem in_X7 : Cond.instantiable RX7 12 ∈ lw_g := (pv_wg1 74 (by decide +kernel))
theorem ac_long : Cond.arrayClass .long ∈ lw_g := (pv_wg1 119 (by decide +kernel))
theorem cl_X11_51 : Cond.classLink RX11 51 RX2 ∈ lw_g := (pv_wg1 120 (by decide +kernel))
theorem in_X2 : Cond.instantiable RX2 6 ∈ lw_g := (pv_wg1 121 (by decide +kernel))
theorem in_X8 : Cond.instantiable RX8 7 ∈ lw_g := (pv_wg1 149 (by decide +kernel))
theorem sl_X11_345 : Cond.fieldLink RX11 345 "TwoRopes" "ABOVE" "[I" ∈ lw_g := (pv_wg2 78 (by decide +kernel))
theorem cl_X11_377 : Cond.classLink RX11 377 RX1 ∈ lw_g := (pv_wg2 135 (by decide +kernel))
theorem in_X1 : Cond.instantiable RX1 5 ∈ lw_g := (pv_wg2 136 (by decide +kernel))
theorem cl_X11_382 : Cond.classLink RX11 382 RX10 ∈ lw_g := (pv_wg2 172 (by decide +kernel))
theorem in_X10 : Cond.instantiable RX10 5 ∈ lw_g := (pv_wg2 173 (by decide +kernel))
theorem cl_X11_385 : Cond.classLink RX11 385 RX5 ∈ lw_g := (pv_wg2 184 (by decide +kernel))
theorem in_X5 : Cond.instantiable RX5 5 ∈ lw_g := (pv_wg2 185 (by decide +kernel))
theorem cl_X11_388 : Cond.classLink RX11 388 RX9 ∈ lw_g := (pv_wg2 196 (by decide +kernel))
theorem in_X9 : Cond.instantiable RX9 5 ∈ lw_g := (pv_wg2 197 (by decide +kernel))
theorem cl_X11_391 : Cond.classLink RX11 391 RX0 ∈ lw_g := (pv_wg2 208 (by decide +kernel))
theorem in_X0 : Cond.instantiable RX0 5 ∈ lw_g := (pv_wg2 209 (by decide +kernel))
theorem cl_X11_394 : Cond.classLink RX11 394 RX6 ∈ lw_g := (pv_wg2 220 (by decide +kernel))
theorem in_X6 : Cond.instantiable RX6 5 ∈ lw_g := (pv_wg2 221 (by decide +kernel))
theorem in_X3 : Cond.instantiable RX3 5 ∈ lw_g := (pv_wg2 232 (by decide +kernel))
theorem k_X11_348 : Cond.constantLong RX11 348 (1000000000000) ∈ lw_g := (pv_wg3 11 (by decide +kernel))
theorem sl_J0_38 : Cond.fieldLink RJ0 38 "java/lang/String" "COMPACT_STRINGS" "Z" ∈ lw_g := (pv_wg3 63 (by decide +kernel))
theorem sl_J0_1053 : Cond.fieldLink RJ0 1053 "jdk/internal/util/Preconditions" "SIOOBE_FORMATTER" "Ljava/util/function/BiFunction;" ∈ lw_g := (pv_wg3 79 (by decide +kernel))
theorem k_X4_62 : Cond.constantLong RX4 62 (1000000000000) ∈ lw_g := (pv_wg3 159 (by decide +kernel))
theorem k_X4_64 : Cond.constantLong RX4 64 (-1000000000000) ∈ lw_g := (pv_wg3 160 (by decide +kernel))
theorem ac_byte : Cond.arrayClass .byte ∈ lw_g := (pv_wg3 173 (by decide +kernel))
theorem k_X11_340 : Cond.constantLong RX11 340 (-2000000000000) ∈ lw_g := (pv_wg3 186 (by decide +kernel))
theorem k_X11_224 : Cond.constantLong RX11 224 (-1) ∈ lw_g := (pv_wg4 14 (by decide +kernel))
theorem k_X11_366 : Cond.constantLong RX11 366 (3) ∈ lw_g := (pv_wg4 18 (by decide +kernel))
theorem k_X11_312 : Cond.constantLong RX11 312 (2) ∈ lw_g := (pv_wg4 19 (by decide +kernel))
theorem k_X11_371 : Cond.constantLong RX11 371 (1000000000) ∈ lw_g := (pv_wg4 92 (by decide +kernel))
theorem k_X2_70 : Cond.constantLong RX2 70 (31) ∈ lw_g := (pv_wg4 150 (by decide +kernel))
theorem k_X2_72 : Cond.constantLong RX2 72 (-7046029254386353131) ∈ lw_g := (pv_wg4 151 (by decide +kernel))
theorem k_X11_297 : Cond.constantLong RX11 297 (1000000) ∈ lw_g := (pv_wg4 184 (by decide +kernel))
theorem k_X11_306 : Cond.constantLong RX11 306 (1000000000000000) ∈ lw_g := (pv_wg4 197 (by decide +kernel))
theorem k_X4_83 : Cond.constant RX4 83 (1103515245) ∈ lw_g := (pv_wg4 227 (by decide +kernel))
theorem cl_L_10 : Cond.classLink RL 10 RX12 ∈ lw_g := (pv_wg5 104 (by decide +kernel))
theorem in_X12 : Cond.instantiable RX12 61 ∈ lw_g := (pv_wg5 105 (by decide +kernel))
theorem k_X12_135 : Cond.constantLong RX12 135 (1000000000000) ∈ lw_g := (pv_wg6 122 (by decide +kernel))
theorem k_X12_137 : Cond.constantLong RX12 137 (-1000000000000) ∈ lw_g := (pv_wg6 123 (by decide +kernel))
theorem k_X12_106 : Cond.constantLong RX12 106 (-2000000000000) ∈ lw_g := (pv_wg6 220 (by decide +kernel))
theorem k_X12_274 : Cond.constantLong RX12 274 (-1) ∈ lw_g := (pv_wg7 29 (by decide +kernel))
theorem k_X12_270 : Cond.constantLong RX12 270 (2) ∈ lw_g := (pv_wg7 38 (by decide +kernel))
theorem k_X12_272 : Cond.constantLong RX12 272 (3) ∈ lw_g := (pv_wg7 39 (by decide +kernel))
theorem k_X12_331 : Cond.constantLong RX12 331 (1000000000) ∈ lw_g := (pv_wg7 92 (by decide +kernel))
theorem k_X12_333 : Cond.constantLong RX12 333 (-1000000000) ∈ lw_g := (pv_wg7 93 (by decide +kernel))
theorem k_X12_329 : Cond.constantLong RX12 329 (2000000000000) ∈ lw_g := (pv_wg7 102 (by decide +kernel))
theorem k_X12_372 : Cond.constantLong RX12 372 (1000000) ∈ lw_g := (pv_wg7 147 (by decide +kernel))
theorem k_X12_389 : Cond.constant RX12 389 (1103515245) ∈ lw_g := (pv_wg7 184 (by decide +kernel))
theorem k_L_18 : Cond.constantLong RL 18 (4294967295) ∈ lw_g := (pv_wg7 225 (by decide +kernel))
theorem ca_X1_X3 : Cond.castable RX1 RX3 ∈ lw_n := (pv_wn7 235 (by decide +kernel))
theorem ca_X10_X3 : Cond.castable RX10 RX3 ∈ lw_n := (pv_wn7 236 (by decide +kernel))
theorem ca_X5_X3 : Cond.castable RX5 RX3 ∈ lw_n := (pv_wn7 237 (by decide +kernel))
theorem ca_X9_X3 : Cond.castable RX9 RX3 ∈ lw_n := (pv_wn7 238 (by decide +kernel))
theorem ca_X0_X3 : Cond.castable RX0 RX3 ∈ lw_n := (pv_wn7 239 (by decide +kernel))
theorem ca_X6_X3 : Cond.castable RX6 RX3 ∈ lw_n := (pv_wn8 0 (by decide +kernel))
theorem sl_J0_9 : Cond.fieldLink RJ0 9 "java/lang/String" "value" "[B" ∈ lw_g := (pv_wg8 1 (by decide +kernel))
theorem sl_J0_15 : Cond.fieldLink RJ0 15 "java/lang/String" "coder" "B" ∈ lw_g := (pv_wg8 2 (by decide +kernel))
theorem oi_1 : Cond.instanceMethod Lib.objectInit ∈ lw_g := (pv_wg1 29 (by decide +kernel))
theorem oi_2 : Cond.code Lib.objectInit ⟨#[0xb1]⟩ 1 none ∈ lw_g := (pv_wg1 30 (by decide +kernel))
theorem cp_1 : Cond.native arraycopyName ∈ lw_g := (pv_wg2 43 (by decide +kernel))
theorem cp_2 : Cond.static arraycopyName ∈ lw_g := (pv_wg2 42 (by decide +kernel))
theorem cp_3 : Cond.initialized "java/lang/System" ∈ lw_g := (pv_wg1 9 (by decide +kernel))
theorem ma_0 : Cond.initialized "java/lang/Math" ∈ lw_g := (pv_wg1 8 (by decide +kernel))
theorem ma_1 : Cond.static Lib.MathLoose.abs_long.x ∈ lw_g := (pv_wg3 16 (by decide +kernel))
theorem ma_2 : Cond.code Lib.MathLoose.abs_long.x Lib.MathLoose.abs_long.code 2 (some .long) ∈ lw_g := (pv_wg3 17 (by decide +kernel))
theorem mi_1 : Cond.static Lib.Math.min.name ∈ lw_g := (pv_wg2 35 (by decide +kernel))
theorem mi_2 : Cond.code Lib.Math.min.name Lib.Math.min.code 2 (some .int) ∈ lw_g := (pv_wg2 36 (by decide +kernel))
theorem li_L_9 : pv_LI RL 9 mX11_init := ⟨Or.inl (pv_wg1 25 (by decide +kernel)), rfl, rfl, (pv_wg1 26 (by decide +kernel))⟩
theorem ol_X11_3 : Cond.methodLink RX11 3 Lib.objectInit ∈ lw_g := (pv_wg1 28 (by decide +kernel))
theorem li_X11_30 : pv_LI RX11 30 mX4_init := ⟨Or.inr ⟨"TwoRopes", (pv_wn1 37 (by decide +kernel))⟩, rfl, rfl, (pv_wg1 38 (by decide +kernel))⟩
theorem ol_X4_3 : Cond.methodLink RX4 3 Lib.objectInit ∈ lw_g := (pv_wg1 40 (by decide +kernel))
theorem li_X11_46 : pv_LI RX11 46 mX7_init := ⟨Or.inr ⟨"TwoRopes", (pv_wn1 75 (by decide +kernel))⟩, rfl, rfl, (pv_wg1 76 (by decide +kernel))⟩
theorem ol_X7_3 : Cond.methodLink RX7 3 Lib.objectInit ∈ lw_g := (pv_wg1 78 (by decide +kernel))
theorem li_X11_53 : pv_LI RX11 53 mX2_init := ⟨Or.inr ⟨"TwoRopes", (pv_wn1 122 (by decide +kernel))⟩, rfl, rfl, (pv_wg1 123 (by decide +kernel))⟩
theorem ol_X2_1 : Cond.methodLink RX2 1 Lib.objectInit ∈ lw_g := (pv_wg1 125 (by decide +kernel))
theorem li_X11_65 : pv_LI RX11 65 mX8_init := ⟨Or.inr ⟨"TwoRopes", (pv_wn1 150 (by decide +kernel))⟩, rfl, rfl, (pv_wg1 151 (by decide +kernel))⟩
theorem ol_X8_3 : Cond.methodLink RX8 3 Lib.objectInit ∈ lw_g := (pv_wg1 153 (by decide +kernel))
theorem lv_L_13_11 : pv_LV RL 13 11 mX11_row := ⟨(pv_wg1 223 (by decide +kernel)), (pv_wg1 224 (by decide +kernel)), (RX11, TX11, 13), rfl, (pv_wg1 225 (by decide +kernel))⟩
theorem lv_X11_66_11 : pv_LV RX11 66 11 mX11_shelfAt := ⟨(pv_wg1 227 (by decide +kernel)), (pv_wg1 229 (by decide +kernel)), (RX11, TX11, 13), rfl, (pv_wp 0 (q := (yX11_shelfAt, 13)) (by decide +kernel))⟩
theorem lv_X11_70_11 : pv_LV RX11 70 11 mX11_refuse := ⟨(pv_wg1 231 (by decide +kernel)), (pv_wg1 233 (by decide +kernel)), (RX11, TX11, 13), rfl, (pv_wp 1 (q := (yX11_refuse, 13)) (by decide +kernel))⟩
theorem lv_X11_74_8 : pv_LV RX11 74 8 mX8_takeRow := ⟨(pv_wg1 235 (by decide +kernel)), (pv_wg1 236 (by decide +kernel)), (RX8, TX8, 7), rfl, (pv_wg1 237 (by decide +kernel))⟩
theorem ls_X8_28 : pv_LS RX8 28 mJ7_fill_d0a16 := ⟨(pv_wg1 239 (by decide +kernel)), (pv_wg2 0 (by decide +kernel))⟩
theorem lv_L_20_11 : pv_LV RL 20 11 mX11_set := ⟨(pv_wg2 2 (by decide +kernel)), (pv_wg2 3 (by decide +kernel)), (RX11, TX11, 13), rfl, (pv_wg2 4 (by decide +kernel))⟩
theorem lv_X11_78_11 : pv_LV RX11 78 11 mX11_noRow := ⟨(pv_wg2 6 (by decide +kernel)), (pv_wg2 8 (by decide +kernel)), (RX11, TX11, 13), rfl, (pv_wp 2 (q := (yX11_noRow, 13)) (by decide +kernel))⟩
theorem lv_X11_122_8 : pv_LV RX11 122 8 mX8_isRow := ⟨(pv_wg2 10 (by decide +kernel)), (pv_wg2 11 (by decide +kernel)), (RX8, TX8, 7), rfl, (pv_wg2 12 (by decide +kernel))⟩
theorem lv_X11_81_8 : pv_LV RX11 81 8 mX8_hasPlace := ⟨(pv_wg2 14 (by decide +kernel)), (pv_wg2 15 (by decide +kernel)), (RX8, TX8, 7), rfl, (pv_wg2 16 (by decide +kernel))⟩
theorem lv_X11_85_8 : pv_LV RX11 85 8 mX8_put := ⟨(pv_wg2 18 (by decide +kernel)), (pv_wg2 19 (by decide +kernel)), (RX8, TX8, 7), rfl, (pv_wg2 20 (by decide +kernel))⟩
theorem lv_X8_34_8 : pv_LV RX8 34 8 mX8_hasPlace := ⟨(pv_wg2 22 (by decide +kernel)), (pv_wg2 15 (by decide +kernel)), (RX8, TX8, 7), rfl, (pv_wg2 16 (by decide +kernel))⟩
theorem lv_X8_38_8 : pv_LV RX8 38 8 mX8_cut := ⟨(pv_wg2 23 (by decide +kernel)), (pv_wg2 25 (by decide +kernel)), (RX8, TX8, 7), rfl, (pv_wp 3 (q := (yX8_cut, 7)) (by decide +kernel))⟩
theorem lv_L_25_11 : pv_LV RL 25 11 mX11_copy := ⟨(pv_wg2 27 (by decide +kernel)), (pv_wg2 28 (by decide +kernel)), (RX11, TX11, 13), rfl, (pv_wg2 29 (by decide +kernel))⟩
theorem ls_X11_89 : pv_LS RX11 89 mX11_firstOf := ⟨(pv_wg2 31 (by decide +kernel)), (pv_wg2 32 (by decide +kernel))⟩
theorem mil_X11_342 : Cond.methodLink RX11 342 Lib.Math.min.name ∈ lw_g := (pv_wg2 34 (by decide +kernel))
theorem lv_X11_96_8 : pv_LV RX11 96 8 mX8_hasPart := ⟨(pv_wg2 37 (by decide +kernel)), (pv_wg2 38 (by decide +kernel)), (RX8, TX8, 7), rfl, (pv_wg2 39 (by decide +kernel))⟩
theorem cpl_X11_104 : Cond.methodLink RX11 104 arraycopyName ∈ lw_g := (pv_wg2 41 (by decide +kernel))
theorem lv_L_30_11 : pv_LV RL 30 11 mX11_element := ⟨(pv_wg2 44 (by decide +kernel)), (pv_wg2 45 (by decide +kernel)), (RX11, TX11, 13), rfl, (pv_wg2 46 (by decide +kernel))⟩
theorem lv_X11_110_8 : pv_LV RX11 110 8 mX8_whole := ⟨(pv_wg2 48 (by decide +kernel)), (pv_wg2 49 (by decide +kernel)), (RX8, TX8, 7), rfl, (pv_wg2 50 (by decide +kernel))⟩
theorem lv_L_35_11 : pv_LV RL 35 11 mX11_show := ⟨(pv_wg2 52 (by decide +kernel)), (pv_wg2 53 (by decide +kernel)), (RX11, TX11, 13), rfl, (pv_wg2 54 (by decide +kernel))⟩
theorem lv_X11_114_11 : pv_LV RX11 114 11 mX11_figureAt := ⟨(pv_wg2 56 (by decide +kernel)), (pv_wg2 58 (by decide +kernel)), (RX11, TX11, 13), rfl, (pv_wp 4 (q := (yX11_figureAt, 13)) (by decide +kernel))⟩
theorem lv_X11_118_8 : pv_LV RX11 118 8 mX8_takeFigure := ⟨(pv_wg2 60 (by decide +kernel)), (pv_wg2 61 (by decide +kernel)), (RX8, TX8, 7), rfl, (pv_wg2 62 (by decide +kernel))⟩
theorem lv_L_40_11 : pv_LV RL 40 11 mX11_holds := ⟨(pv_wg2 64 (by decide +kernel)), (pv_wg2 65 (by decide +kernel)), (RX11, TX11, 13), rfl, (pv_wg2 66 (by decide +kernel))⟩
theorem lv_L_45_11 : pv_LV RL 45 11 mX11_says := ⟨(pv_wg2 68 (by decide +kernel)), (pv_wg2 69 (by decide +kernel)), (RX11, TX11, 13), rfl, (pv_wg2 70 (by decide +kernel))⟩
theorem ls_X11_129 : pv_LS RX11 129 mX11_isKind := ⟨(pv_wg2 72 (by decide +kernel)), (pv_wg2 73 (by decide +kernel))⟩
theorem ls_X11_135 : pv_LS RX11 135 mX11_isUnder := ⟨(pv_wg2 75 (by decide +kernel)), (pv_wg2 76 (by decide +kernel))⟩
theorem lu_X11_141_0 : pv_LU RX11 141 0 ⟨"TwoRopes$Dance", "saying", "()I"⟩ mX9_saying := ⟨"TwoRopes$Dance", (RX0, TX0, 5), prog_5_method_3_code, 1, (some .int), rfl, (pv_wg2 80 (by decide +kernel)), (pv_wg2 83 (by decide +kernel)), (pv_wg2 81 (by decide +kernel)), (pv_wg2 116 (by decide +kernel)), ⟨by decide, by decide⟩, (pv_wg2 84 (by decide +kernel)), (pv_wg2 85 (by decide +kernel)), rfl⟩
theorem lu_X11_141_1 : pv_LU RX11 141 1 ⟨"TwoRopes$Dance", "saying", "()I"⟩ mX1_saying := ⟨"TwoRopes$Dance", (RX1, TX1, 5), prog_5_method_3_code, 1, (some .int), rfl, (pv_wg2 80 (by decide +kernel)), (pv_wg2 83 (by decide +kernel)), (pv_wg2 81 (by decide +kernel)), (pv_wg2 116 (by decide +kernel)), ⟨by decide, by decide⟩, (pv_wg2 98 (by decide +kernel)), (pv_wg2 99 (by decide +kernel)), rfl⟩
theorem lv_X11_141_3 : pv_LV RX11 141 3 mX3_saying := ⟨(pv_wg2 80 (by decide +kernel)), (pv_wg2 81 (by decide +kernel)), (RX3, TX3, 5), rfl, (pv_wg2 82 (by decide +kernel))⟩
theorem lu_X11_141_3 : pv_LU RX11 141 3 ⟨"TwoRopes$Dance", "saying", "()I"⟩ mX3_saying := ⟨"TwoRopes$Dance", (RX3, TX3, 5), prog_5_method_3_code, 1, (some .int), rfl, (pv_wg2 80 (by decide +kernel)), (pv_wg2 83 (by decide +kernel)), (pv_wg2 81 (by decide +kernel)), (pv_wg2 116 (by decide +kernel)), ⟨by decide, by decide⟩, (pv_wg2 82 (by decide +kernel)), (pv_wg2 81 (by decide +kernel)), rfl⟩
theorem lu_X11_141_5 : pv_LU RX11 141 5 ⟨"TwoRopes$Dance", "saying", "()I"⟩ mX1_saying := ⟨"TwoRopes$Dance", (RX5, TX5, 5), prog_5_method_3_code, 1, (some .int), rfl, (pv_wg2 80 (by decide +kernel)), (pv_wg2 83 (by decide +kernel)), (pv_wg2 81 (by decide +kernel)), (pv_wg2 116 (by decide +kernel)), ⟨by decide, by decide⟩, (pv_wg2 112 (by decide +kernel)), (pv_wg2 99 (by decide +kernel)), rfl⟩
theorem lu_X11_141_6 : pv_LU RX11 141 6 ⟨"TwoRopes$Dance", "saying", "()I"⟩ mX9_saying := ⟨"TwoRopes$Dance", (RX6, TX6, 5), prog_5_method_3_code, 1, (some .int), rfl, (pv_wg2 80 (by decide +kernel)), (pv_wg2 83 (by decide +kernel)), (pv_wg2 81 (by decide +kernel)), (pv_wg2 116 (by decide +kernel)), ⟨by decide, by decide⟩, (pv_wg2 113 (by decide +kernel)), (pv_wg2 85 (by decide +kernel)), rfl⟩
theorem lu_X11_141_9 : pv_LU RX11 141 9 ⟨"TwoRopes$Dance", "saying", "()I"⟩ mX9_saying := ⟨"TwoRopes$Dance", (RX9, TX9, 5), prog_5_method_3_code, 1, (some .int), rfl, (pv_wg2 80 (by decide +kernel)), (pv_wg2 83 (by decide +kernel)), (pv_wg2 81 (by decide +kernel)), (pv_wg2 116 (by decide +kernel)), ⟨by decide, by decide⟩, (pv_wg2 114 (by decide +kernel)), (pv_wg2 85 (by decide +kernel)), rfl⟩
theorem lu_X11_141_10 : pv_LU RX11 141 10 ⟨"TwoRopes$Dance", "saying", "()I"⟩ mX1_saying := ⟨"TwoRopes$Dance", (RX10, TX10, 5), prog_5_method_3_code, 1, (some .int), rfl, (pv_wg2 80 (by decide +kernel)), (pv_wg2 83 (by decide +kernel)), (pv_wg2 81 (by decide +kernel)), (pv_wg2 116 (by decide +kernel)), ⟨by decide, by decide⟩, (pv_wg2 115 (by decide +kernel)), (pv_wg2 99 (by decide +kernel)), rfl⟩
theorem lu_X9_7_0 : pv_LU RX9 7 0 ⟨"TwoRopes$Turn", "turns", "()I"⟩ mX0_turns := ⟨"TwoRopes$Turn", (RX0, TX0, 5), prog_11_method_2_code, 1, (some .int), rfl, (pv_wg2 87 (by decide +kernel)), (pv_wg2 90 (by decide +kernel)), (pv_wg2 88 (by decide +kernel)), (pv_wg2 97 (by decide +kernel)), ⟨by decide, by decide⟩, (pv_wg2 91 (by decide +kernel)), (pv_wg2 92 (by decide +kernel)), rfl⟩
theorem lu_X9_7_6 : pv_LU RX9 7 6 ⟨"TwoRopes$Turn", "turns", "()I"⟩ mX6_turns := ⟨"TwoRopes$Turn", (RX6, TX6, 5), prog_11_method_2_code, 1, (some .int), rfl, (pv_wg2 87 (by decide +kernel)), (pv_wg2 90 (by decide +kernel)), (pv_wg2 88 (by decide +kernel)), (pv_wg2 97 (by decide +kernel)), ⟨by decide, by decide⟩, (pv_wg2 94 (by decide +kernel)), (pv_wg2 95 (by decide +kernel)), rfl⟩
theorem lv_X9_7_9 : pv_LV RX9 7 9 mX9_turns := ⟨(pv_wg2 87 (by decide +kernel)), (pv_wg2 88 (by decide +kernel)), (RX9, TX9, 5), rfl, (pv_wg2 89 (by decide +kernel))⟩
theorem lu_X9_7_9 : pv_LU RX9 7 9 ⟨"TwoRopes$Turn", "turns", "()I"⟩ mX9_turns := ⟨"TwoRopes$Turn", (RX9, TX9, 5), prog_11_method_2_code, 1, (some .int), rfl, (pv_wg2 87 (by decide +kernel)), (pv_wg2 90 (by decide +kernel)), (pv_wg2 88 (by decide +kernel)), (pv_wg2 97 (by decide +kernel)), ⟨by decide, by decide⟩, (pv_wg2 89 (by decide +kernel)), (pv_wg2 88 (by decide +kernel)), rfl⟩
theorem lv_X1_7_1 : pv_LV RX1 7 1 mX1_more := ⟨(pv_wg2 101 (by decide +kernel)), (pv_wg2 102 (by decide +kernel)), (RX1, TX1, 5), rfl, (pv_wg2 103 (by decide +kernel))⟩
theorem lu_X1_7_1 : pv_LU RX1 7 1 ⟨"TwoRopes$Change", "more", "()I"⟩ mX1_more := ⟨"TwoRopes$Change", (RX1, TX1, 5), prog_3_method_2_code, 1, (some .int), rfl, (pv_wg2 101 (by decide +kernel)), (pv_wg2 104 (by decide +kernel)), (pv_wg2 102 (by decide +kernel)), (pv_wg2 111 (by decide +kernel)), ⟨by decide, by decide⟩, (pv_wg2 103 (by decide +kernel)), (pv_wg2 102 (by decide +kernel)), rfl⟩
theorem lu_X1_7_5 : pv_LU RX1 7 5 ⟨"TwoRopes$Change", "more", "()I"⟩ mX5_more := ⟨"TwoRopes$Change", (RX5, TX5, 5), prog_3_method_2_code, 1, (some .int), rfl, (pv_wg2 101 (by decide +kernel)), (pv_wg2 104 (by decide +kernel)), (pv_wg2 102 (by decide +kernel)), (pv_wg2 111 (by decide +kernel)), ⟨by decide, by decide⟩, (pv_wg2 105 (by decide +kernel)), (pv_wg2 106 (by decide +kernel)), rfl⟩
theorem lu_X1_7_10 : pv_LU RX1 7 10 ⟨"TwoRopes$Change", "more", "()I"⟩ mX10_more := ⟨"TwoRopes$Change", (RX10, TX10, 5), prog_3_method_2_code, 1, (some .int), rfl, (pv_wg2 101 (by decide +kernel)), (pv_wg2 104 (by decide +kernel)), (pv_wg2 102 (by decide +kernel)), (pv_wg2 111 (by decide +kernel)), ⟨by decide, by decide⟩, (pv_wg2 108 (by decide +kernel)), (pv_wg2 109 (by decide +kernel)), rfl⟩
theorem lv_L_49_11 : pv_LV RL 49 11 mX11_figure := ⟨(pv_wg2 117 (by decide +kernel)), (pv_wg2 118 (by decide +kernel)), (RX11, TX11, 13), rfl, (pv_wg2 119 (by decide +kernel))⟩
theorem ls_X11_145 : pv_LS RX11 145 mX11_isA := ⟨(pv_wg2 121 (by decide +kernel)), (pv_wg2 122 (by decide +kernel))⟩
theorem ls_X11_148 : pv_LS RX11 148 mX11_isCost := ⟨(pv_wg2 124 (by decide +kernel)), (pv_wg2 125 (by decide +kernel))⟩
theorem lv_X11_154_11 : pv_LV RX11 154 11 mX11_addFigure := ⟨(pv_wg2 127 (by decide +kernel)), (pv_wg2 129 (by decide +kernel)), (RX11, TX11, 13), rfl, (pv_wp 5 (q := (yX11_addFigure, 13)) (by decide +kernel))⟩
theorem lv_X11_373_11 : pv_LV RX11 373 11 mX11_newFigure := ⟨(pv_wg2 131 (by decide +kernel)), (pv_wg2 133 (by decide +kernel)), (RX11, TX11, 13), rfl, (pv_wp 6 (q := (yX11_newFigure, 13)) (by decide +kernel))⟩
theorem li_X11_379 : pv_LI RX11 379 mX1_init := ⟨Or.inl (pv_wg2 137 (by decide +kernel)), rfl, rfl, (pv_wg2 138 (by decide +kernel))⟩
theorem li_X1_1 : pv_LI RX1 1 mX3_init := ⟨Or.inl (pv_wg2 140 (by decide +kernel)), rfl, rfl, (pv_wg2 141 (by decide +kernel))⟩
theorem ol_X3_1 : Cond.methodLink RX3 1 Lib.objectInit ∈ lw_g := (pv_wg2 143 (by decide +kernel))
theorem li_X11_384 : pv_LI RX11 384 mX10_init := ⟨Or.inl (pv_wg2 174 (by decide +kernel)), rfl, rfl, (pv_wg2 175 (by decide +kernel))⟩
theorem li_X10_1 : pv_LI RX10 1 mX1_init := ⟨Or.inl (pv_wg2 177 (by decide +kernel)), rfl, rfl, (pv_wg2 138 (by decide +kernel))⟩
theorem li_X11_387 : pv_LI RX11 387 mX5_init := ⟨Or.inl (pv_wg2 186 (by decide +kernel)), rfl, rfl, (pv_wg2 187 (by decide +kernel))⟩
theorem li_X5_1 : pv_LI RX5 1 mX1_init := ⟨Or.inl (pv_wg2 189 (by decide +kernel)), rfl, rfl, (pv_wg2 138 (by decide +kernel))⟩
theorem li_X11_390 : pv_LI RX11 390 mX9_init := ⟨Or.inl (pv_wg2 198 (by decide +kernel)), rfl, rfl, (pv_wg2 199 (by decide +kernel))⟩
theorem li_X9_1 : pv_LI RX9 1 mX3_init := ⟨Or.inl (pv_wg2 201 (by decide +kernel)), rfl, rfl, (pv_wg2 141 (by decide +kernel))⟩
theorem li_X11_393 : pv_LI RX11 393 mX0_init := ⟨Or.inl (pv_wg2 210 (by decide +kernel)), rfl, rfl, (pv_wg2 211 (by decide +kernel))⟩
theorem li_X0_1 : pv_LI RX0 1 mX9_init := ⟨Or.inl (pv_wg2 213 (by decide +kernel)), rfl, rfl, (pv_wg2 199 (by decide +kernel))⟩
theorem li_X11_396 : pv_LI RX11 396 mX6_init := ⟨Or.inl (pv_wg2 222 (by decide +kernel)), rfl, rfl, (pv_wg2 223 (by decide +kernel))⟩
theorem li_X6_1 : pv_LI RX6 1 mX9_init := ⟨Or.inl (pv_wg2 225 (by decide +kernel)), rfl, rfl, (pv_wg2 199 (by decide +kernel))⟩
theorem li_X11_397 : pv_LI RX11 397 mX3_init := ⟨Or.inl (pv_wg2 233 (by decide +kernel)), rfl, rfl, (pv_wg2 141 (by decide +kernel))⟩
theorem lv_L_53_11 : pv_LV RL 53 11 mX11_figureOf := ⟨(pv_wg3 0 (by decide +kernel)), (pv_wg3 1 (by decide +kernel)), (RX11, TX11, 13), rfl, (pv_wg3 2 (by decide +kernel))⟩
theorem lv_L_57_11 : pv_LV RL 57 11 mX11_start := ⟨(pv_wg3 4 (by decide +kernel)), (pv_wg3 5 (by decide +kernel)), (RX11, TX11, 13), rfl, (pv_wg3 6 (by decide +kernel))⟩
theorem ls_X11_161 : pv_LS RX11 161 mX11_isNumber := ⟨(pv_wg3 8 (by decide +kernel)), (pv_wg3 9 (by decide +kernel))⟩
theorem ls_X11_350 : pv_LS RX11 350 mX11_isWide := ⟨(pv_wg3 12 (by decide +kernel)), (pv_wg3 13 (by decide +kernel))⟩
theorem mal_X11_268 : Cond.methodLink RX11 268 Lib.MathLoose.abs_long.x ∈ lw_g := (pv_wg3 15 (by decide +kernel))
theorem ls_X11_274 : pv_LS RX11 274 mX11_divisor := ⟨(pv_wg3 18 (by decide +kernel)), (pv_wg3 19 (by decide +kernel))⟩
theorem lv_X11_165_4 : pv_LV RX11 165 4 mX4_become := ⟨(pv_wg3 21 (by decide +kernel)), (pv_wg3 22 (by decide +kernel)), (RX4, TX4, 7), rfl, (pv_wg3 23 (by decide +kernel))⟩
theorem lv_L_62_11 : pv_LV RL 62 11 mX11_barn := ⟨(pv_wg3 25 (by decide +kernel)), (pv_wg3 26 (by decide +kernel)), (RX11, TX11, 13), rfl, (pv_wg3 27 (by decide +kernel))⟩
theorem lv_X11_169_4 : pv_LV RX11 169 4 mX4_takeFrom := ⟨(pv_wg3 29 (by decide +kernel)), (pv_wg3 30 (by decide +kernel)), (RX4, TX4, 7), rfl, (pv_wg3 31 (by decide +kernel))⟩
theorem cpl_X4_23 : Cond.methodLink RX4 23 arraycopyName ∈ lw_g := (pv_wg3 33 (by decide +kernel))
theorem lv_X11_173_8 : pv_LV RX11 173 8 mX8_open := ⟨(pv_wg3 34 (by decide +kernel)), (pv_wg3 35 (by decide +kernel)), (RX8, TX8, 7), rfl, (pv_wg3 36 (by decide +kernel))⟩
theorem lv_X11_176_11 : pv_LV RX11 176 11 mX11_readItems := ⟨(pv_wg3 38 (by decide +kernel)), (pv_wg3 40 (by decide +kernel)), (RX11, TX11, 13), rfl, (pv_wp 7 (q := (yX11_readItems, 13)) (by decide +kernel))⟩
theorem lv_X11_428_11 : pv_LV RX11 428 11 mX11_readItem := ⟨(pv_wg3 42 (by decide +kernel)), (pv_wg3 44 (by decide +kernel)), (RX11, TX11, 13), rfl, (pv_wp 8 (q := (yX11_readItem, 13)) (by decide +kernel))⟩
theorem lv_X11_398_8 : pv_LV RX11 398 8 mX8_asInt := ⟨(pv_wg3 46 (by decide +kernel)), (pv_wg3 47 (by decide +kernel)), (RX8, TX8, 7), rfl, (pv_wg3 48 (by decide +kernel))⟩
theorem lv_X11_443_8 : pv_LV RX11 443 8 mX8_readsWord := ⟨(pv_wg3 51 (by decide +kernel)), (pv_wg3 52 (by decide +kernel)), (RX8, TX8, 7), rfl, (pv_wg3 53 (by decide +kernel))⟩
theorem lt_X8_57 : pv_LT RX8 57 mJ0_length_8abf5 := ⟨(pv_wg3 55 (by decide +kernel)), (pv_wg3 56 (by decide +kernel)), (pv_wg3 57 (by decide +kernel))⟩
theorem lt_J0_335 : pv_LT RJ0 335 mJ0_coder_7d493 := ⟨(pv_wg3 59 (by decide +kernel)), (pv_wg3 60 (by decide +kernel)), (pv_wg3 61 (by decide +kernel))⟩
theorem lt_X8_63 : pv_LT RX8 63 mJ0_charAt_5068e := ⟨(pv_wg3 65 (by decide +kernel)), (pv_wg3 66 (by decide +kernel)), (pv_wg3 67 (by decide +kernel))⟩
theorem lt_J0_492 : pv_LT RJ0 492 mJ0_isLatin1_aae02 := ⟨(pv_wg3 69 (by decide +kernel)), (pv_wg3 70 (by decide +kernel)), (pv_wg3 71 (by decide +kernel))⟩
theorem ls_J0_495 : pv_LS RJ0 495 mJ1_charAt_3b067 := ⟨(pv_wg3 73 (by decide +kernel)), (pv_wg3 74 (by decide +kernel))⟩
theorem ls_J1_9 : pv_LS RJ1 9 mJ0_checkIndex_df160 := ⟨(pv_wg3 76 (by decide +kernel)), (pv_wg3 77 (by decide +kernel))⟩
theorem ls_J0_1059 : pv_LS RJ0 1059 mJ3_checkIndex_8e157 := ⟨(pv_wg3 81 (by decide +kernel)), (pv_wg3 82 (by decide +kernel))⟩
theorem ls_J0_498 : pv_LS RJ0 498 mJ2_charAt_3b067 := ⟨(pv_wg3 84 (by decide +kernel)), (pv_wg3 85 (by decide +kernel))⟩
theorem ls_J2_67 : pv_LS RJ2 67 mJ2_checkIndex_2214a := ⟨(pv_wg3 87 (by decide +kernel)), (pv_wg3 88 (by decide +kernel))⟩
theorem ls_J2_48 : pv_LS RJ2 48 mJ2_length_9d52b := ⟨(pv_wg3 90 (by decide +kernel)), (pv_wg3 91 (by decide +kernel))⟩
theorem ls_J2_414 : pv_LS RJ2 414 mJ0_checkIndex_df160 := ⟨(pv_wg3 93 (by decide +kernel)), (pv_wg3 77 (by decide +kernel))⟩
theorem ls_J2_71 : pv_LS RJ2 71 mJ2_getChar_3b067 := ⟨(pv_wg3 94 (by decide +kernel)), (pv_wg3 95 (by decide +kernel))⟩
theorem lv_X8_67_8 : pv_LV RX8 67 8 mX8_reads := ⟨(pv_wg3 103 (by decide +kernel)), (pv_wg3 104 (by decide +kernel)), (RX8, TX8, 7), rfl, (pv_wg3 105 (by decide +kernel))⟩
theorem lv_X8_45_8 : pv_LV RX8 45 8 mX8_isRead := ⟨(pv_wg3 107 (by decide +kernel)), (pv_wg3 108 (by decide +kernel)), (RX8, TX8, 7), rfl, (pv_wg3 109 (by decide +kernel))⟩
theorem lv_X8_49_8 : pv_LV RX8 49 8 mX8_asInt := ⟨(pv_wg3 111 (by decide +kernel)), (pv_wg3 47 (by decide +kernel)), (RX8, TX8, 7), rfl, (pv_wg3 48 (by decide +kernel))⟩
theorem lv_X8_53_8 : pv_LV RX8 53 8 mX8_fits := ⟨(pv_wg3 112 (by decide +kernel)), (pv_wg3 113 (by decide +kernel)), (RX8, TX8, 7), rfl, (pv_wg3 114 (by decide +kernel))⟩
theorem lv_X11_447_8 : pv_LV RX11 447 8 mX8_fits := ⟨(pv_wg3 116 (by decide +kernel)), (pv_wg3 113 (by decide +kernel)), (RX8, TX8, 7), rfl, (pv_wg3 114 (by decide +kernel))⟩
theorem lv_X11_451_11 : pv_LV RX11 451 11 mX11_readFigure := ⟨(pv_wg3 117 (by decide +kernel)), (pv_wg3 119 (by decide +kernel)), (RX11, TX11, 13), rfl, (pv_wp 9 (q := (yX11_readFigure, 13)) (by decide +kernel))⟩
theorem lv_X11_464_8 : pv_LV RX11 464 8 mX8_readNumber := ⟨(pv_wg3 121 (by decide +kernel)), (pv_wg3 122 (by decide +kernel)), (RX8, TX8, 7), rfl, (pv_wg3 123 (by decide +kernel))⟩
theorem lv_X11_456_11 : pv_LV RX11 456 11 mX11_readCall := ⟨(pv_wg3 126 (by decide +kernel)), (pv_wg3 128 (by decide +kernel)), (RX11, TX11, 13), rfl, (pv_wp 10 (q := (yX11_readCall, 13)) (by decide +kernel))⟩
theorem lv_X11_196_4 : pv_LV RX11 196 4 mX4_dance := ⟨(pv_wg3 130 (by decide +kernel)), (pv_wg3 131 (by decide +kernel)), (RX4, TX4, 7), rfl, (pv_wg3 132 (by decide +kernel))⟩
theorem lu_X4_45_0 : pv_LU RX4 45 0 ⟨"TwoRopes$Dance", "move", "(LTwoRopes$Hall;)Z"⟩ mX9_move := ⟨"TwoRopes$Dance", (RX0, TX0, 5), prog_5_method_2_code, 2, (some .boolean), rfl, (pv_wg3 134 (by decide +kernel)), (pv_wg3 137 (by decide +kernel)), (pv_wg3 135 (by decide +kernel)), (pv_wg3 165 (by decide +kernel)), ⟨by decide, by decide⟩, (pv_wg3 138 (by decide +kernel)), (pv_wg3 139 (by decide +kernel)), rfl⟩
theorem lu_X4_45_1 : pv_LU RX4 45 1 ⟨"TwoRopes$Dance", "move", "(LTwoRopes$Hall;)Z"⟩ mX1_move := ⟨"TwoRopes$Dance", (RX1, TX1, 5), prog_5_method_2_code, 2, (some .boolean), rfl, (pv_wg3 134 (by decide +kernel)), (pv_wg3 137 (by decide +kernel)), (pv_wg3 135 (by decide +kernel)), (pv_wg3 165 (by decide +kernel)), ⟨by decide, by decide⟩, (pv_wg3 152 (by decide +kernel)), (pv_wg3 153 (by decide +kernel)), rfl⟩
theorem lv_X4_45_3 : pv_LV RX4 45 3 mX3_move := ⟨(pv_wg3 134 (by decide +kernel)), (pv_wg3 135 (by decide +kernel)), (RX3, TX3, 5), rfl, (pv_wg3 136 (by decide +kernel))⟩
theorem lu_X4_45_3 : pv_LU RX4 45 3 ⟨"TwoRopes$Dance", "move", "(LTwoRopes$Hall;)Z"⟩ mX3_move := ⟨"TwoRopes$Dance", (RX3, TX3, 5), prog_5_method_2_code, 2, (some .boolean), rfl, (pv_wg3 134 (by decide +kernel)), (pv_wg3 137 (by decide +kernel)), (pv_wg3 135 (by decide +kernel)), (pv_wg3 165 (by decide +kernel)), ⟨by decide, by decide⟩, (pv_wg3 136 (by decide +kernel)), (pv_wg3 135 (by decide +kernel)), rfl⟩
theorem lu_X4_45_5 : pv_LU RX4 45 5 ⟨"TwoRopes$Dance", "move", "(LTwoRopes$Hall;)Z"⟩ mX1_move := ⟨"TwoRopes$Dance", (RX5, TX5, 5), prog_5_method_2_code, 2, (some .boolean), rfl, (pv_wg3 134 (by decide +kernel)), (pv_wg3 137 (by decide +kernel)), (pv_wg3 135 (by decide +kernel)), (pv_wg3 165 (by decide +kernel)), ⟨by decide, by decide⟩, (pv_wg3 161 (by decide +kernel)), (pv_wg3 153 (by decide +kernel)), rfl⟩
theorem lu_X4_45_6 : pv_LU RX4 45 6 ⟨"TwoRopes$Dance", "move", "(LTwoRopes$Hall;)Z"⟩ mX9_move := ⟨"TwoRopes$Dance", (RX6, TX6, 5), prog_5_method_2_code, 2, (some .boolean), rfl, (pv_wg3 134 (by decide +kernel)), (pv_wg3 137 (by decide +kernel)), (pv_wg3 135 (by decide +kernel)), (pv_wg3 165 (by decide +kernel)), ⟨by decide, by decide⟩, (pv_wg3 162 (by decide +kernel)), (pv_wg3 139 (by decide +kernel)), rfl⟩
theorem lu_X4_45_9 : pv_LU RX4 45 9 ⟨"TwoRopes$Dance", "move", "(LTwoRopes$Hall;)Z"⟩ mX9_move := ⟨"TwoRopes$Dance", (RX9, TX9, 5), prog_5_method_2_code, 2, (some .boolean), rfl, (pv_wg3 134 (by decide +kernel)), (pv_wg3 137 (by decide +kernel)), (pv_wg3 135 (by decide +kernel)), (pv_wg3 165 (by decide +kernel)), ⟨by decide, by decide⟩, (pv_wg3 163 (by decide +kernel)), (pv_wg3 139 (by decide +kernel)), rfl⟩
theorem lu_X4_45_10 : pv_LU RX4 45 10 ⟨"TwoRopes$Dance", "move", "(LTwoRopes$Hall;)Z"⟩ mX1_move := ⟨"TwoRopes$Dance", (RX10, TX10, 5), prog_5_method_2_code, 2, (some .boolean), rfl, (pv_wg3 134 (by decide +kernel)), (pv_wg3 137 (by decide +kernel)), (pv_wg3 135 (by decide +kernel)), (pv_wg3 165 (by decide +kernel)), ⟨by decide, by decide⟩, (pv_wg3 164 (by decide +kernel)), (pv_wg3 153 (by decide +kernel)), rfl⟩
theorem lv_X9_13_4 : pv_LV RX9 13 4 mX4_turn := ⟨(pv_wg3 141 (by decide +kernel)), (pv_wg3 142 (by decide +kernel)), (RX4, TX4, 7), rfl, (pv_wg3 143 (by decide +kernel))⟩
theorem lsn_X4_66 : pv_LSN RX4 66 mX11_stepP := ⟨⟨"TwoRopes", (pv_wn3 145 (by decide +kernel))⟩, (pv_wg3 146 (by decide +kernel))⟩
theorem lsn_X4_70 : pv_LSN RX4 70 mX11_stepQ := ⟨⟨"TwoRopes", (pv_wn3 148 (by decide +kernel))⟩, (pv_wg3 149 (by decide +kernel))⟩
theorem lv_X4_41_4 : pv_LV RX4 41 4 mX4_become := ⟨(pv_wg3 151 (by decide +kernel)), (pv_wg3 22 (by decide +kernel)), (RX4, TX4, 7), rfl, (pv_wg3 23 (by decide +kernel))⟩
theorem lv_X1_13_4 : pv_LV RX1 13 4 mX4_change := ⟨(pv_wg3 155 (by decide +kernel)), (pv_wg3 156 (by decide +kernel)), (RX4, TX4, 7), rfl, (pv_wg3 157 (by decide +kernel))⟩
theorem lv_X11_461_11 : pv_LV RX11 461 11 mX11_readStart := ⟨(pv_wg3 167 (by decide +kernel)), (pv_wg3 169 (by decide +kernel)), (RX11, TX11, 13), rfl, (pv_wp 11 (q := (yX11_readStart, 13)) (by decide +kernel))⟩
theorem lv_X11_432_8 : pv_LV RX11 432 8 mX8_isRead := ⟨(pv_wg3 171 (by decide +kernel)), (pv_wg3 108 (by decide +kernel)), (RX8, TX8, 7), rfl, (pv_wg3 109 (by decide +kernel))⟩
theorem lv_X11_435_8 : pv_LV RX11 435 8 mX8_reads := ⟨(pv_wg3 172 (by decide +kernel)), (pv_wg3 104 (by decide +kernel)), (RX8, TX8, 7), rfl, (pv_wg3 105 (by decide +kernel))⟩
theorem lv_L_66_11 : pv_LV RL 66 11 mX11_fault := ⟨(pv_wg3 174 (by decide +kernel)), (pv_wg3 175 (by decide +kernel)), (RX11, TX11, 13), rfl, (pv_wg3 176 (by decide +kernel))⟩
theorem lv_L_71_11 : pv_LV RL 71 11 mX11_now := ⟨(pv_wg3 178 (by decide +kernel)), (pv_wg3 179 (by decide +kernel)), (RX11, TX11, 13), rfl, (pv_wg3 180 (by decide +kernel))⟩
theorem lv_X11_183_11 : pv_LV RX11 183 11 mX11_refuseFar := ⟨(pv_wg3 182 (by decide +kernel)), (pv_wg3 184 (by decide +kernel)), (RX11, TX11, 13), rfl, (pv_wp 12 (q := (yX11_refuseFar, 13)) (by decide +kernel))⟩
theorem lv_L_76_11 : pv_LV RL 76 11 mX11_stand := ⟨(pv_wg3 187 (by decide +kernel)), (pv_wg3 188 (by decide +kernel)), (RX11, TX11, 13), rfl, (pv_wg3 189 (by decide +kernel))⟩
theorem lv_L_80_11 : pv_LV RL 80 11 mX11_call := ⟨(pv_wg3 191 (by decide +kernel)), (pv_wg3 192 (by decide +kernel)), (RX11, TX11, 13), rfl, (pv_wg3 193 (by decide +kernel))⟩
theorem lv_L_84_11 : pv_LV RL 84 11 mX11_judge := ⟨(pv_wg3 195 (by decide +kernel)), (pv_wg3 196 (by decide +kernel)), (RX11, TX11, 13), rfl, (pv_wg3 197 (by decide +kernel))⟩
theorem lv_X11_203_11 : pv_LV RX11 203 11 mX11_noPart := ⟨(pv_wg3 199 (by decide +kernel)), (pv_wg3 201 (by decide +kernel)), (RX11, TX11, 13), rfl, (pv_wp 13 (q := (yX11_noPart, 13)) (by decide +kernel))⟩
theorem lv_X11_206_11 : pv_LV RX11 206 11 mX11_tryRow := ⟨(pv_wg3 203 (by decide +kernel)), (pv_wg3 205 (by decide +kernel)), (RX11, TX11, 13), rfl, (pv_wp 14 (q := (yX11_tryRow, 13)) (by decide +kernel))⟩
theorem lv_X11_401_11 : pv_LV RX11 401 11 mX11_goOn := ⟨(pv_wg3 207 (by decide +kernel)), (pv_wg3 209 (by decide +kernel)), (RX11, TX11, 13), rfl, (pv_wp 15 (q := (yX11_goOn, 13)) (by decide +kernel))⟩
theorem lv_L_88_11 : pv_LV RL 88 11 mX11_told := ⟨(pv_wg3 211 (by decide +kernel)), (pv_wg3 212 (by decide +kernel)), (RX11, TX11, 13), rfl, (pv_wg3 213 (by decide +kernel))⟩
theorem lv_L_93_11 : pv_LV RL 93 11 mX11_dances := ⟨(pv_wg3 215 (by decide +kernel)), (pv_wg3 216 (by decide +kernel)), (RX11, TX11, 13), rfl, (pv_wg3 217 (by decide +kernel))⟩
theorem lv_L_97_11 : pv_LV RL 97 11 mX11_repeated := ⟨(pv_wg3 219 (by decide +kernel)), (pv_wg3 220 (by decide +kernel)), (RX11, TX11, 13), rfl, (pv_wg3 221 (by decide +kernel))⟩
theorem lv_X11_213_11 : pv_LV RX11 213 11 mX11_areFigures := ⟨(pv_wg3 223 (by decide +kernel)), (pv_wg3 225 (by decide +kernel)), (RX11, TX11, 13), rfl, (pv_wp 16 (q := (yX11_areFigures, 13)) (by decide +kernel))⟩
theorem lv_X11_216_11 : pv_LV RX11 216 11 mX11_tryOften := ⟨(pv_wg3 227 (by decide +kernel)), (pv_wg3 229 (by decide +kernel)), (RX11, TX11, 13), rfl, (pv_wp 17 (q := (yX11_tryOften, 13)) (by decide +kernel))⟩
theorem lv_X11_405_11 : pv_LV RX11 405 11 mX11_signOfStraight := ⟨(pv_wg3 231 (by decide +kernel)), (pv_wg3 233 (by decide +kernel)), (RX11, TX11, 13), rfl, (pv_wp 18 (q := (yX11_signOfStraight, 13)) (by decide +kernel))⟩
theorem ls_X11_408 : pv_LS RX11 408 mX11_straightOn := ⟨(pv_wg3 235 (by decide +kernel)), (pv_wg3 236 (by decide +kernel))⟩
theorem lv_X11_412_4 : pv_LV RX11 412 4 mX4_becomeEither := ⟨(pv_wg3 238 (by decide +kernel)), (pv_wg3 239 (by decide +kernel)), (RX4, TX4, 7), rfl, (pv_wg4 0 (by decide +kernel))⟩
theorem lv_L_102_11 : pv_LV RL 102 11 mX11_same := ⟨(pv_wg4 2 (by decide +kernel)), (pv_wg4 3 (by decide +kernel)), (RX11, TX11, 13), rfl, (pv_wg4 4 (by decide +kernel))⟩
theorem lv_X11_220_4 : pv_LV RX11 220 4 mX4_standsLike := ⟨(pv_wg4 6 (by decide +kernel)), (pv_wg4 7 (by decide +kernel)), (RX4, TX4, 7), rfl, (pv_wg4 8 (by decide +kernel))⟩
theorem lv_L_107_11 : pv_LV RL 107 11 mX11_undo := ⟨(pv_wg4 10 (by decide +kernel)), (pv_wg4 11 (by decide +kernel)), (RX11, TX11, 13), rfl, (pv_wg4 12 (by decide +kernel))⟩
theorem ls_X11_226 : pv_LS RX11 226 mX11_undoing := ⟨(pv_wg4 15 (by decide +kernel)), (pv_wg4 16 (by decide +kernel))⟩
theorem lv_L_112_11 : pv_LV RL 112 11 mX11_undoes := ⟨(pv_wg4 20 (by decide +kernel)), (pv_wg4 21 (by decide +kernel)), (RX11, TX11, 13), rfl, (pv_wg4 22 (by decide +kernel))⟩
theorem lv_L_117_11 : pv_LV RL 117 11 mX11_made := ⟨(pv_wg4 24 (by decide +kernel)), (pv_wg4 25 (by decide +kernel)), (RX11, TX11, 13), rfl, (pv_wg4 26 (by decide +kernel))⟩
theorem lv_L_122_11 : pv_LV RL 122 11 mX11_least := ⟨(pv_wg4 28 (by decide +kernel)), (pv_wg4 29 (by decide +kernel)), (RX11, TX11, 13), rfl, (pv_wg4 30 (by decide +kernel))⟩
theorem lv_X11_230_11 : pv_LV RX11 230 11 mX11_refuseTen := ⟨(pv_wg4 32 (by decide +kernel)), (pv_wg4 34 (by decide +kernel)), (RX11, TX11, 13), rfl, (pv_wp 19 (q := (yX11_refuseTen, 13)) (by decide +kernel))⟩
theorem lv_X11_233_7 : pv_LV RX11 233 7 mX7_open := ⟨(pv_wg4 36 (by decide +kernel)), (pv_wg4 37 (by decide +kernel)), (RX7, TX7, 12), rfl, (pv_wg4 38 (by decide +kernel))⟩
theorem lv_X11_236_7 : pv_LV RX11 236 7 mX7_add := ⟨(pv_wg4 40 (by decide +kernel)), (pv_wg4 41 (by decide +kernel)), (RX7, TX7, 12), rfl, (pv_wg4 42 (by decide +kernel))⟩
theorem lv_X11_239_7 : pv_LV RX11 239 7 mX7_find := ⟨(pv_wg4 44 (by decide +kernel)), (pv_wg4 45 (by decide +kernel)), (RX7, TX7, 12), rfl, (pv_wg4 46 (by decide +kernel))⟩
theorem mil_X7_48 : Cond.methodLink RX7 48 Lib.Math.min.name ∈ lw_g := (pv_wg4 48 (by decide +kernel))
theorem lv_X7_57_7 : pv_LV RX7 57 7 mX7_walk := ⟨(pv_wg4 49 (by decide +kernel)), (pv_wg4 51 (by decide +kernel)), (RX7, TX7, 12), rfl, (pv_wp 20 (q := (yX7_walk, 12)) (by decide +kernel))⟩
theorem lv_X7_61_7 : pv_LV RX7 61 7 mX7_isThere := ⟨(pv_wg4 53 (by decide +kernel)), (pv_wg4 55 (by decide +kernel)), (RX7, TX7, 12), rfl, (pv_wp 21 (q := (yX7_isThere, 12)) (by decide +kernel))⟩
theorem lv_X7_65_7 : pv_LV RX7 65 7 mX7_keep := ⟨(pv_wg4 57 (by decide +kernel)), (pv_wg4 59 (by decide +kernel)), (RX7, TX7, 12), rfl, (pv_wp 22 (q := (yX7_keep, 12)) (by decide +kernel))⟩
theorem cpl_X7_82 : Cond.methodLink RX7 82 arraycopyName ∈ lw_g := (pv_wg4 61 (by decide +kernel))
theorem lv_X7_68_7 : pv_LV RX7 68 7 mX7_isUndone := ⟨(pv_wg4 62 (by decide +kernel)), (pv_wg4 64 (by decide +kernel)), (RX7, TX7, 12), rfl, (pv_wp 23 (q := (yX7_isUndone, 12)) (by decide +kernel))⟩
theorem lv_X7_72_7 : pv_LV RX7 72 7 mX7_stepAll := ⟨(pv_wg4 66 (by decide +kernel)), (pv_wg4 68 (by decide +kernel)), (RX7, TX7, 12), rfl, (pv_wp 24 (q := (yX7_stepAll, 12)) (by decide +kernel))⟩
theorem lsn_X7_75 : pv_LSN RX7 75 mX11_stepP := ⟨⟨"TwoRopes", (pv_wn4 70 (by decide +kernel))⟩, (pv_wg3 146 (by decide +kernel))⟩
theorem lsn_X7_79 : pv_LSN RX7 79 mX11_stepQ := ⟨⟨"TwoRopes", (pv_wn4 71 (by decide +kernel))⟩, (pv_wg3 149 (by decide +kernel))⟩
theorem lv_X11_243_7 : pv_LV RX11 243 7 mX7_isFound := ⟨(pv_wg4 72 (by decide +kernel)), (pv_wg4 73 (by decide +kernel)), (RX7, TX7, 12), rfl, (pv_wg4 74 (by decide +kernel))⟩
theorem lv_X11_249_11 : pv_LV RX11 249 11 mX11_foundStep := ⟨(pv_wg4 76 (by decide +kernel)), (pv_wg4 78 (by decide +kernel)), (RX11, TX11, 13), rfl, (pv_wp 25 (q := (yX11_foundStep, 13)) (by decide +kernel))⟩
theorem lv_L_127_11 : pv_LV RL 127 11 mX11_cheapest := ⟨(pv_wg4 80 (by decide +kernel)), (pv_wg4 81 (by decide +kernel)), (RX11, TX11, 13), rfl, (pv_wg4 82 (by decide +kernel))⟩
theorem lv_L_132_11 : pv_LV RL 132 11 mX11_side := ⟨(pv_wg4 84 (by decide +kernel)), (pv_wg4 85 (by decide +kernel)), (RX11, TX11, 13), rfl, (pv_wg4 86 (by decide +kernel))⟩
theorem lv_X11_255_11 : pv_LV RX11 255 11 mX11_notJoined := ⟨(pv_wg4 88 (by decide +kernel)), (pv_wg4 90 (by decide +kernel)), (RX11, TX11, 13), rfl, (pv_wp 26 (q := (yX11_notJoined, 13)) (by decide +kernel))⟩
theorem lv_X11_259_4 : pv_LV RX11 259 4 mX4_join := ⟨(pv_wg4 93 (by decide +kernel)), (pv_wg4 94 (by decide +kernel)), (RX4, TX4, 7), rfl, (pv_wg4 95 (by decide +kernel))⟩
theorem mal_X4_73 : Cond.methodLink RX4 73 Lib.MathLoose.abs_long.x ∈ lw_g := (pv_wg4 97 (by decide +kernel))
theorem lsn_X4_79 : pv_LSN RX4 79 mX11_divisor := ⟨⟨"TwoRopes", (pv_wn4 98 (by decide +kernel))⟩, (pv_wg3 19 (by decide +kernel))⟩
theorem lv_X11_262_11 : pv_LV RX11 262 11 mX11_joined := ⟨(pv_wg4 99 (by decide +kernel)), (pv_wg4 101 (by decide +kernel)), (RX11, TX11, 13), rfl, (pv_wp 27 (q := (yX11_joined, 13)) (by decide +kernel))⟩
theorem lv_L_137_11 : pv_LV RL 137 11 mX11_over := ⟨(pv_wg4 103 (by decide +kernel)), (pv_wg4 104 (by decide +kernel)), (RX11, TX11, 13), rfl, (pv_wg4 105 (by decide +kernel))⟩
theorem lv_X11_265_4 : pv_LV RX11 265 4 mX4_turnOver := ⟨(pv_wg4 107 (by decide +kernel)), (pv_wg4 108 (by decide +kernel)), (RX4, TX4, 7), rfl, (pv_wg4 109 (by decide +kernel))⟩
theorem lv_L_141_11 : pv_LV RL 141 11 mX11_closed := ⟨(pv_wg4 111 (by decide +kernel)), (pv_wg4 112 (by decide +kernel)), (RX11, TX11, 13), rfl, (pv_wg4 113 (by decide +kernel))⟩
theorem lv_L_146_11 : pv_LV RL 146 11 mX11_coloured := ⟨(pv_wg4 115 (by decide +kernel)), (pv_wg4 116 (by decide +kernel)), (RX11, TX11, 13), rfl, (pv_wg4 117 (by decide +kernel))⟩
theorem lv_L_150_11 : pv_LV RL 150 11 mX11_forgot := ⟨(pv_wg4 119 (by decide +kernel)), (pv_wg4 120 (by decide +kernel)), (RX11, TX11, 13), rfl, (pv_wg4 121 (by decide +kernel))⟩
theorem lv_X11_278_11 : pv_LV RX11 278 11 mX11_noForgotten := ⟨(pv_wg4 123 (by decide +kernel)), (pv_wg4 125 (by decide +kernel)), (RX11, TX11, 13), rfl, (pv_wp 28 (q := (yX11_noForgotten, 13)) (by decide +kernel))⟩
theorem lv_X11_281_11 : pv_LV RX11 281 11 mX11_forget := ⟨(pv_wg4 127 (by decide +kernel)), (pv_wg4 129 (by decide +kernel)), (RX11, TX11, 13), rfl, (pv_wp 29 (q := (yX11_forget, 13)) (by decide +kernel))⟩
theorem lv_X11_415_2 : pv_LV RX11 415 2 mX2_begin := ⟨(pv_wg4 131 (by decide +kernel)), (pv_wg4 132 (by decide +kernel)), (RX2, TX2, 6), rfl, (pv_wg4 133 (by decide +kernel))⟩
theorem lv_X2_37_2 : pv_LV RX2 37 2 mX2_clear := ⟨(pv_wg4 135 (by decide +kernel)), (pv_wg4 136 (by decide +kernel)), (RX2, TX2, 6), rfl, (pv_wg4 137 (by decide +kernel))⟩
theorem ls_X2_23 : pv_LS RX2 23 mJ7_fill_53178 := ⟨(pv_wg4 139 (by decide +kernel)), (pv_wg4 140 (by decide +kernel))⟩
theorem lv_X2_49_2 : pv_LV RX2 49 2 mX2_add := ⟨(pv_wg4 142 (by decide +kernel)), (pv_wg4 144 (by decide +kernel)), (RX2, TX2, 6), rfl, (pv_wp 30 (q := (yX2_add, 6)) (by decide +kernel))⟩
theorem lv_X2_66_2 : pv_LV RX2 66 2 mX2_slotOf := ⟨(pv_wg4 146 (by decide +kernel)), (pv_wg4 148 (by decide +kernel)), (RX2, TX2, 6), rfl, (pv_wp 31 (q := (yX2_slotOf, 6)) (by decide +kernel))⟩
theorem lv_X11_418_2 : pv_LV RX11 418 2 mX2_clear := ⟨(pv_wg4 152 (by decide +kernel)), (pv_wg4 136 (by decide +kernel)), (RX2, TX2, 6), rfl, (pv_wg4 137 (by decide +kernel))⟩
theorem lv_X11_421_2 : pv_LV RX11 421 2 mX2_addStepped := ⟨(pv_wg4 153 (by decide +kernel)), (pv_wg4 154 (by decide +kernel)), (RX2, TX2, 6), rfl, (pv_wg4 155 (by decide +kernel))⟩
theorem lsn_X2_53 : pv_LSN RX2 53 mX11_stepP := ⟨⟨"TwoRopes", (pv_wn4 157 (by decide +kernel))⟩, (pv_wg3 146 (by decide +kernel))⟩
theorem lsn_X2_59 : pv_LSN RX2 59 mX11_stepQ := ⟨⟨"TwoRopes", (pv_wn4 158 (by decide +kernel))⟩, (pv_wg3 149 (by decide +kernel))⟩
theorem lsn_X2_62 : pv_LSN RX2 62 mX11_isWide := ⟨⟨"TwoRopes", (pv_wn4 159 (by decide +kernel))⟩, (pv_wg3 13 (by decide +kernel))⟩
theorem lv_L_154_11 : pv_LV RL 154 11 mX11_may := ⟨(pv_wg4 160 (by decide +kernel)), (pv_wg4 161 (by decide +kernel)), (RX11, TX11, 13), rfl, (pv_wg4 162 (by decide +kernel))⟩
theorem lv_X11_288_2 : pv_LV RX11 288 2 mX2_outermost := ⟨(pv_wg4 164 (by decide +kernel)), (pv_wg4 165 (by decide +kernel)), (RX2, TX2, 6), rfl, (pv_wg4 166 (by decide +kernel))⟩
theorem lsn_X2_74 : pv_LSN RX2 74 mX11_compare := ⟨⟨"TwoRopes", (pv_wn4 168 (by decide +kernel))⟩, (pv_wg4 169 (by decide +kernel))⟩
theorem ls_X11_354 : pv_LS RX11 354 mJ9_floorDiv_f86c9 := ⟨(pv_wg4 171 (by decide +kernel)), (pv_wg4 172 (by decide +kernel))⟩
theorem ls_X11_357 : pv_LS RX11 357 mJ13_compare_74951 := ⟨(pv_wg4 174 (by decide +kernel)), (pv_wg4 175 (by decide +kernel))⟩
theorem ls_X11_362 : pv_LS RX11 362 mJ6_compare_7cf53 := ⟨(pv_wg4 177 (by decide +kernel)), (pv_wg4 178 (by decide +kernel))⟩
theorem lv_L_158_11 : pv_LV RL 158 11 mX11_kept := ⟨(pv_wg4 180 (by decide +kernel)), (pv_wg4 181 (by decide +kernel)), (RX11, TX11, 13), rfl, (pv_wg4 182 (by decide +kernel))⟩
theorem lv_X11_299_11 : pv_LV RX11 299 11 mX11_rowsOf := ⟨(pv_wg4 185 (by decide +kernel)), (pv_wg4 187 (by decide +kernel)), (RX11, TX11, 13), rfl, (pv_wp 32 (q := (yX11_rowsOf, 13)) (by decide +kernel))⟩
theorem lv_X11_303_2 : pv_LV RX11 303 2 mX2_allRows := ⟨(pv_wg4 189 (by decide +kernel)), (pv_wg4 190 (by decide +kernel)), (RX2, TX2, 6), rfl, (pv_wg4 191 (by decide +kernel))⟩
theorem lv_L_163_11 : pv_LV RL 163 11 mX11_lot := ⟨(pv_wg4 193 (by decide +kernel)), (pv_wg4 194 (by decide +kernel)), (RX11, TX11, 13), rfl, (pv_wg4 195 (by decide +kernel))⟩
theorem lv_X11_308_2 : pv_LV RX11 308 2 mX2_rowsTo := ⟨(pv_wg4 198 (by decide +kernel)), (pv_wg4 199 (by decide +kernel)), (RX2, TX2, 6), rfl, (pv_wg4 200 (by decide +kernel))⟩
theorem lv_L_168_11 : pv_LV RL 168 11 mX11_bag := ⟨(pv_wg4 202 (by decide +kernel)), (pv_wg4 203 (by decide +kernel)), (RX11, TX11, 13), rfl, (pv_wg4 204 (by decide +kernel))⟩
theorem lv_L_173_11 : pv_LV RL 173 11 mX11_frees := ⟨(pv_wg4 206 (by decide +kernel)), (pv_wg4 207 (by decide +kernel)), (RX11, TX11, 13), rfl, (pv_wg4 208 (by decide +kernel))⟩
theorem ls_X11_315 : pv_LS RX11 315 mX11_undoStep := ⟨(pv_wg4 210 (by decide +kernel)), (pv_wg4 211 (by decide +kernel))⟩
theorem lv_X11_319_4 : pv_LV RX11 319 4 mX4_step := ⟨(pv_wg4 213 (by decide +kernel)), (pv_wg4 214 (by decide +kernel)), (RX4, TX4, 7), rfl, (pv_wg4 215 (by decide +kernel))⟩
theorem lv_X4_54_4 : pv_LV RX4 54 4 mX4_turn := ⟨(pv_wg4 217 (by decide +kernel)), (pv_wg3 142 (by decide +kernel)), (RX4, TX4, 7), rfl, (pv_wg3 143 (by decide +kernel))⟩
theorem lv_X4_58_4 : pv_LV RX4 58 4 mX4_change := ⟨(pv_wg4 218 (by decide +kernel)), (pv_wg3 156 (by decide +kernel)), (RX4, TX4, 7), rfl, (pv_wg3 157 (by decide +kernel))⟩
theorem lv_L_177_11 : pv_LV RL 177 11 mX11_draws := ⟨(pv_wg4 219 (by decide +kernel)), (pv_wg4 220 (by decide +kernel)), (RX11, TX11, 13), rfl, (pv_wg4 221 (by decide +kernel))⟩
theorem lv_X11_322_4 : pv_LV RX11 322 4 mX4_draw := ⟨(pv_wg4 223 (by decide +kernel)), (pv_wg4 224 (by decide +kernel)), (RX4, TX4, 7), rfl, (pv_wg4 225 (by decide +kernel))⟩
theorem lv_L_181_11 : pv_LV RL 181 11 mX11_seed := ⟨(pv_wg4 228 (by decide +kernel)), (pv_wg4 229 (by decide +kernel)), (RX11, TX11, 13), rfl, (pv_wg4 230 (by decide +kernel))⟩
theorem lv_L_185_11 : pv_LV RL 185 11 mX11_act := ⟨(pv_wg4 232 (by decide +kernel)), (pv_wg4 233 (by decide +kernel)), (RX11, TX11, 13), rfl, (pv_wg4 234 (by decide +kernel))⟩
theorem lu_X11_328_0 : pv_LU RX11 328 0 ⟨"TwoRopes$Dance", "calls", "(I)I"⟩ mX0_calls := ⟨"TwoRopes$Dance", (RX0, TX0, 5), prog_5_method_5_code, 2, (some .int), rfl, (pv_wg4 236 (by decide +kernel)), (pv_wg4 239 (by decide +kernel)), (pv_wg4 237 (by decide +kernel)), (pv_wg5 25 (by decide +kernel)), ⟨by decide, by decide⟩, (pv_wg5 0 (by decide +kernel)), (pv_wg5 1 (by decide +kernel)), rfl⟩
theorem lu_X11_328_1 : pv_LU RX11 328 1 ⟨"TwoRopes$Dance", "calls", "(I)I"⟩ mX1_calls := ⟨"TwoRopes$Dance", (RX1, TX1, 5), prog_5_method_5_code, 2, (some .int), rfl, (pv_wg4 236 (by decide +kernel)), (pv_wg4 239 (by decide +kernel)), (pv_wg4 237 (by decide +kernel)), (pv_wg5 25 (by decide +kernel)), ⟨by decide, by decide⟩, (pv_wg5 12 (by decide +kernel)), (pv_wg5 13 (by decide +kernel)), rfl⟩
theorem lv_X11_328_3 : pv_LV RX11 328 3 mX3_calls := ⟨(pv_wg4 236 (by decide +kernel)), (pv_wg4 237 (by decide +kernel)), (RX3, TX3, 5), rfl, (pv_wg4 238 (by decide +kernel))⟩
theorem lu_X11_328_3 : pv_LU RX11 328 3 ⟨"TwoRopes$Dance", "calls", "(I)I"⟩ mX3_calls := ⟨"TwoRopes$Dance", (RX3, TX3, 5), prog_5_method_5_code, 2, (some .int), rfl, (pv_wg4 236 (by decide +kernel)), (pv_wg4 239 (by decide +kernel)), (pv_wg4 237 (by decide +kernel)), (pv_wg5 25 (by decide +kernel)), ⟨by decide, by decide⟩, (pv_wg4 238 (by decide +kernel)), (pv_wg4 237 (by decide +kernel)), rfl⟩
theorem lu_X11_328_5 : pv_LU RX11 328 5 ⟨"TwoRopes$Dance", "calls", "(I)I"⟩ mX1_calls := ⟨"TwoRopes$Dance", (RX5, TX5, 5), prog_5_method_5_code, 2, (some .int), rfl, (pv_wg4 236 (by decide +kernel)), (pv_wg4 239 (by decide +kernel)), (pv_wg4 237 (by decide +kernel)), (pv_wg5 25 (by decide +kernel)), ⟨by decide, by decide⟩, (pv_wg5 21 (by decide +kernel)), (pv_wg5 13 (by decide +kernel)), rfl⟩
theorem lu_X11_328_6 : pv_LU RX11 328 6 ⟨"TwoRopes$Dance", "calls", "(I)I"⟩ mX3_calls := ⟨"TwoRopes$Dance", (RX6, TX6, 5), prog_5_method_5_code, 2, (some .int), rfl, (pv_wg4 236 (by decide +kernel)), (pv_wg4 239 (by decide +kernel)), (pv_wg4 237 (by decide +kernel)), (pv_wg5 25 (by decide +kernel)), ⟨by decide, by decide⟩, (pv_wg5 22 (by decide +kernel)), (pv_wg4 237 (by decide +kernel)), rfl⟩
theorem lu_X11_328_9 : pv_LU RX11 328 9 ⟨"TwoRopes$Dance", "calls", "(I)I"⟩ mX3_calls := ⟨"TwoRopes$Dance", (RX9, TX9, 5), prog_5_method_5_code, 2, (some .int), rfl, (pv_wg4 236 (by decide +kernel)), (pv_wg4 239 (by decide +kernel)), (pv_wg4 237 (by decide +kernel)), (pv_wg5 25 (by decide +kernel)), ⟨by decide, by decide⟩, (pv_wg5 23 (by decide +kernel)), (pv_wg4 237 (by decide +kernel)), rfl⟩
theorem lu_X11_328_10 : pv_LU RX11 328 10 ⟨"TwoRopes$Dance", "calls", "(I)I"⟩ mX1_calls := ⟨"TwoRopes$Dance", (RX10, TX10, 5), prog_5_method_5_code, 2, (some .int), rfl, (pv_wg4 236 (by decide +kernel)), (pv_wg4 239 (by decide +kernel)), (pv_wg4 237 (by decide +kernel)), (pv_wg5 25 (by decide +kernel)), ⟨by decide, by decide⟩, (pv_wg5 24 (by decide +kernel)), (pv_wg5 13 (by decide +kernel)), rfl⟩
theorem lu_X0_7_0 : pv_LU RX0 7 0 ⟨"TwoRopes$Back", "ran", "(I)V"⟩ mX3_ran := ⟨"TwoRopes$Dance", (RX0, TX0, 5), prog_5_method_4_code, 2, none, rfl, (pv_wg5 3 (by decide +kernel)), (pv_wg5 4 (by decide +kernel)), (pv_wg5 7 (by decide +kernel)), (pv_wg5 8 (by decide +kernel)), ⟨by decide, by decide⟩, (pv_wg5 6 (by decide +kernel)), (pv_wg5 7 (by decide +kernel)), rfl⟩
theorem lsx_X0_13 : pv_LSX RX0 13 ⟨"TwoRopes$Turn", "calls", "(I)I"⟩ mX3_calls := ⟨(pv_wg5 9 (by decide +kernel)), (pv_wg5 10 (by decide +kernel)), (pv_wg2 219 (by decide +kernel)), (pv_wg2 207 (by decide +kernel)), (pv_wg4 237 (by decide +kernel)), by decide +kernel, rfl, rfl⟩
theorem lu_X1_19_1 : pv_LU RX1 19 1 ⟨"TwoRopes$Change", "ran", "(I)V"⟩ mX3_ran := ⟨"TwoRopes$Dance", (RX1, TX1, 5), prog_5_method_4_code, 2, none, rfl, (pv_wg5 15 (by decide +kernel)), (pv_wg5 16 (by decide +kernel)), (pv_wg5 7 (by decide +kernel)), (pv_wg5 8 (by decide +kernel)), ⟨by decide, by decide⟩, (pv_wg5 17 (by decide +kernel)), (pv_wg5 7 (by decide +kernel)), rfl⟩
theorem lu_X1_19_5 : pv_LU RX1 19 5 ⟨"TwoRopes$Change", "ran", "(I)V"⟩ mX3_ran := ⟨"TwoRopes$Dance", (RX5, TX5, 5), prog_5_method_4_code, 2, none, rfl, (pv_wg5 15 (by decide +kernel)), (pv_wg5 16 (by decide +kernel)), (pv_wg5 7 (by decide +kernel)), (pv_wg5 8 (by decide +kernel)), ⟨by decide, by decide⟩, (pv_wg5 18 (by decide +kernel)), (pv_wg5 7 (by decide +kernel)), rfl⟩
theorem lu_X1_19_10 : pv_LU RX1 19 10 ⟨"TwoRopes$Change", "ran", "(I)V"⟩ mX3_ran := ⟨"TwoRopes$Dance", (RX10, TX10, 5), prog_5_method_4_code, 2, none, rfl, (pv_wg5 15 (by decide +kernel)), (pv_wg5 16 (by decide +kernel)), (pv_wg5 7 (by decide +kernel)), (pv_wg5 8 (by decide +kernel)), ⟨by decide, by decide⟩, (pv_wg5 19 (by decide +kernel)), (pv_wg5 7 (by decide +kernel)), rfl⟩
theorem lsu_X1_23 : pv_LSU RX1 23 mX3_calls := ⟨(pv_wg5 20 (by decide +kernel)), (pv_wg4 239 (by decide +kernel)), (pv_wg2 171 (by decide +kernel)), (pv_wg4 237 (by decide +kernel)), by decide +kernel⟩
theorem lu_X1_23_0 : pv_LU RX1 23 0 ⟨"TwoRopes$Dance", "calls", "(I)I"⟩ mX0_calls := ⟨"TwoRopes$Dance", (RX0, TX0, 5), prog_5_method_5_code, 2, (some .int), rfl, (pv_wg5 20 (by decide +kernel)), (pv_wg4 239 (by decide +kernel)), (pv_wg4 237 (by decide +kernel)), (pv_wg5 25 (by decide +kernel)), ⟨by decide, by decide⟩, (pv_wg5 0 (by decide +kernel)), (pv_wg5 1 (by decide +kernel)), rfl⟩
theorem lu_X1_23_1 : pv_LU RX1 23 1 ⟨"TwoRopes$Dance", "calls", "(I)I"⟩ mX1_calls := ⟨"TwoRopes$Dance", (RX1, TX1, 5), prog_5_method_5_code, 2, (some .int), rfl, (pv_wg5 20 (by decide +kernel)), (pv_wg4 239 (by decide +kernel)), (pv_wg4 237 (by decide +kernel)), (pv_wg5 25 (by decide +kernel)), ⟨by decide, by decide⟩, (pv_wg5 12 (by decide +kernel)), (pv_wg5 13 (by decide +kernel)), rfl⟩
theorem lv_X1_23_3 : pv_LV RX1 23 3 mX3_calls := ⟨(pv_wg5 20 (by decide +kernel)), (pv_wg4 237 (by decide +kernel)), (RX3, TX3, 5), rfl, (pv_wg4 238 (by decide +kernel))⟩
theorem lu_X1_23_3 : pv_LU RX1 23 3 ⟨"TwoRopes$Dance", "calls", "(I)I"⟩ mX3_calls := ⟨"TwoRopes$Dance", (RX3, TX3, 5), prog_5_method_5_code, 2, (some .int), rfl, (pv_wg5 20 (by decide +kernel)), (pv_wg4 239 (by decide +kernel)), (pv_wg4 237 (by decide +kernel)), (pv_wg5 25 (by decide +kernel)), ⟨by decide, by decide⟩, (pv_wg4 238 (by decide +kernel)), (pv_wg4 237 (by decide +kernel)), rfl⟩
theorem lu_X1_23_5 : pv_LU RX1 23 5 ⟨"TwoRopes$Dance", "calls", "(I)I"⟩ mX1_calls := ⟨"TwoRopes$Dance", (RX5, TX5, 5), prog_5_method_5_code, 2, (some .int), rfl, (pv_wg5 20 (by decide +kernel)), (pv_wg4 239 (by decide +kernel)), (pv_wg4 237 (by decide +kernel)), (pv_wg5 25 (by decide +kernel)), ⟨by decide, by decide⟩, (pv_wg5 21 (by decide +kernel)), (pv_wg5 13 (by decide +kernel)), rfl⟩
theorem lu_X1_23_6 : pv_LU RX1 23 6 ⟨"TwoRopes$Dance", "calls", "(I)I"⟩ mX3_calls := ⟨"TwoRopes$Dance", (RX6, TX6, 5), prog_5_method_5_code, 2, (some .int), rfl, (pv_wg5 20 (by decide +kernel)), (pv_wg4 239 (by decide +kernel)), (pv_wg4 237 (by decide +kernel)), (pv_wg5 25 (by decide +kernel)), ⟨by decide, by decide⟩, (pv_wg5 22 (by decide +kernel)), (pv_wg4 237 (by decide +kernel)), rfl⟩
theorem lu_X1_23_9 : pv_LU RX1 23 9 ⟨"TwoRopes$Dance", "calls", "(I)I"⟩ mX3_calls := ⟨"TwoRopes$Dance", (RX9, TX9, 5), prog_5_method_5_code, 2, (some .int), rfl, (pv_wg5 20 (by decide +kernel)), (pv_wg4 239 (by decide +kernel)), (pv_wg4 237 (by decide +kernel)), (pv_wg5 25 (by decide +kernel)), ⟨by decide, by decide⟩, (pv_wg5 23 (by decide +kernel)), (pv_wg4 237 (by decide +kernel)), rfl⟩
theorem lu_X1_23_10 : pv_LU RX1 23 10 ⟨"TwoRopes$Dance", "calls", "(I)I"⟩ mX1_calls := ⟨"TwoRopes$Dance", (RX10, TX10, 5), prog_5_method_5_code, 2, (some .int), rfl, (pv_wg5 20 (by decide +kernel)), (pv_wg4 239 (by decide +kernel)), (pv_wg4 237 (by decide +kernel)), (pv_wg5 25 (by decide +kernel)), ⟨by decide, by decide⟩, (pv_wg5 24 (by decide +kernel)), (pv_wg5 13 (by decide +kernel)), rfl⟩
theorem lu_X3_26_0 : pv_LU RX3 26 0 ⟨"TwoRopes$Dance", "ran", "(I)V"⟩ mX3_ran := ⟨"TwoRopes$Dance", (RX0, TX0, 5), prog_5_method_4_code, 2, none, rfl, (pv_wg5 26 (by decide +kernel)), (pv_wg7 226 (by decide +kernel)), (pv_wg5 7 (by decide +kernel)), (pv_wg5 8 (by decide +kernel)), ⟨by decide, by decide⟩, (pv_wg7 227 (by decide +kernel)), (pv_wg5 7 (by decide +kernel)), rfl⟩
theorem lu_X3_26_1 : pv_LU RX3 26 1 ⟨"TwoRopes$Dance", "ran", "(I)V"⟩ mX3_ran := ⟨"TwoRopes$Dance", (RX1, TX1, 5), prog_5_method_4_code, 2, none, rfl, (pv_wg5 26 (by decide +kernel)), (pv_wg7 226 (by decide +kernel)), (pv_wg5 7 (by decide +kernel)), (pv_wg5 8 (by decide +kernel)), ⟨by decide, by decide⟩, (pv_wg7 228 (by decide +kernel)), (pv_wg5 7 (by decide +kernel)), rfl⟩
theorem lv_X3_26_3 : pv_LV RX3 26 3 mX3_ran := ⟨(pv_wg5 26 (by decide +kernel)), (pv_wg5 7 (by decide +kernel)), (RX3, TX3, 5), rfl, (pv_wg7 229 (by decide +kernel))⟩
theorem lu_X3_26_3 : pv_LU RX3 26 3 ⟨"TwoRopes$Dance", "ran", "(I)V"⟩ mX3_ran := ⟨"TwoRopes$Dance", (RX3, TX3, 5), prog_5_method_4_code, 2, none, rfl, (pv_wg5 26 (by decide +kernel)), (pv_wg7 226 (by decide +kernel)), (pv_wg5 7 (by decide +kernel)), (pv_wg5 8 (by decide +kernel)), ⟨by decide, by decide⟩, (pv_wg7 229 (by decide +kernel)), (pv_wg5 7 (by decide +kernel)), rfl⟩
theorem lu_X3_26_5 : pv_LU RX3 26 5 ⟨"TwoRopes$Dance", "ran", "(I)V"⟩ mX3_ran := ⟨"TwoRopes$Dance", (RX5, TX5, 5), prog_5_method_4_code, 2, none, rfl, (pv_wg5 26 (by decide +kernel)), (pv_wg7 226 (by decide +kernel)), (pv_wg5 7 (by decide +kernel)), (pv_wg5 8 (by decide +kernel)), ⟨by decide, by decide⟩, (pv_wg7 230 (by decide +kernel)), (pv_wg5 7 (by decide +kernel)), rfl⟩
theorem lu_X3_26_6 : pv_LU RX3 26 6 ⟨"TwoRopes$Dance", "ran", "(I)V"⟩ mX3_ran := ⟨"TwoRopes$Dance", (RX6, TX6, 5), prog_5_method_4_code, 2, none, rfl, (pv_wg5 26 (by decide +kernel)), (pv_wg7 226 (by decide +kernel)), (pv_wg5 7 (by decide +kernel)), (pv_wg5 8 (by decide +kernel)), ⟨by decide, by decide⟩, (pv_wg7 231 (by decide +kernel)), (pv_wg5 7 (by decide +kernel)), rfl⟩
theorem lu_X3_26_9 : pv_LU RX3 26 9 ⟨"TwoRopes$Dance", "ran", "(I)V"⟩ mX3_ran := ⟨"TwoRopes$Dance", (RX9, TX9, 5), prog_5_method_4_code, 2, none, rfl, (pv_wg5 26 (by decide +kernel)), (pv_wg7 226 (by decide +kernel)), (pv_wg5 7 (by decide +kernel)), (pv_wg5 8 (by decide +kernel)), ⟨by decide, by decide⟩, (pv_wg7 232 (by decide +kernel)), (pv_wg5 7 (by decide +kernel)), rfl⟩
theorem lu_X3_26_10 : pv_LU RX3 26 10 ⟨"TwoRopes$Dance", "ran", "(I)V"⟩ mX3_ran := ⟨"TwoRopes$Dance", (RX10, TX10, 5), prog_5_method_4_code, 2, none, rfl, (pv_wg5 26 (by decide +kernel)), (pv_wg7 226 (by decide +kernel)), (pv_wg5 7 (by decide +kernel)), (pv_wg5 8 (by decide +kernel)), ⟨by decide, by decide⟩, (pv_wg7 233 (by decide +kernel)), (pv_wg5 7 (by decide +kernel)), rfl⟩
theorem lu_X11_331_0 : pv_LU RX11 331 0 ⟨"TwoRopes$Dance", "steps", "(I)I"⟩ mX3_steps := ⟨"TwoRopes$Dance", (RX0, TX0, 5), prog_5_method_6_code, 2, (some .int), rfl, (pv_wg5 27 (by decide +kernel)), (pv_wg5 30 (by decide +kernel)), (pv_wg5 28 (by decide +kernel)), (pv_wg5 58 (by decide +kernel)), ⟨by decide, by decide⟩, (pv_wg5 31 (by decide +kernel)), (pv_wg5 28 (by decide +kernel)), rfl⟩
theorem lu_X11_331_1 : pv_LU RX11 331 1 ⟨"TwoRopes$Dance", "steps", "(I)I"⟩ mX3_steps := ⟨"TwoRopes$Dance", (RX1, TX1, 5), prog_5_method_6_code, 2, (some .int), rfl, (pv_wg5 27 (by decide +kernel)), (pv_wg5 30 (by decide +kernel)), (pv_wg5 28 (by decide +kernel)), (pv_wg5 58 (by decide +kernel)), ⟨by decide, by decide⟩, (pv_wg5 32 (by decide +kernel)), (pv_wg5 28 (by decide +kernel)), rfl⟩
theorem lv_X11_331_3 : pv_LV RX11 331 3 mX3_steps := ⟨(pv_wg5 27 (by decide +kernel)), (pv_wg5 28 (by decide +kernel)), (RX3, TX3, 5), rfl, (pv_wg5 29 (by decide +kernel))⟩
theorem lu_X11_331_3 : pv_LU RX11 331 3 ⟨"TwoRopes$Dance", "steps", "(I)I"⟩ mX3_steps := ⟨"TwoRopes$Dance", (RX3, TX3, 5), prog_5_method_6_code, 2, (some .int), rfl, (pv_wg5 27 (by decide +kernel)), (pv_wg5 30 (by decide +kernel)), (pv_wg5 28 (by decide +kernel)), (pv_wg5 58 (by decide +kernel)), ⟨by decide, by decide⟩, (pv_wg5 29 (by decide +kernel)), (pv_wg5 28 (by decide +kernel)), rfl⟩
theorem lu_X11_331_5 : pv_LU RX11 331 5 ⟨"TwoRopes$Dance", "steps", "(I)I"⟩ mX5_steps := ⟨"TwoRopes$Dance", (RX5, TX5, 5), prog_5_method_6_code, 2, (some .int), rfl, (pv_wg5 27 (by decide +kernel)), (pv_wg5 30 (by decide +kernel)), (pv_wg5 28 (by decide +kernel)), (pv_wg5 58 (by decide +kernel)), ⟨by decide, by decide⟩, (pv_wg5 33 (by decide +kernel)), (pv_wg5 34 (by decide +kernel)), rfl⟩
theorem lu_X11_331_6 : pv_LU RX11 331 6 ⟨"TwoRopes$Dance", "steps", "(I)I"⟩ mX6_steps := ⟨"TwoRopes$Dance", (RX6, TX6, 5), prog_5_method_6_code, 2, (some .int), rfl, (pv_wg5 27 (by decide +kernel)), (pv_wg5 30 (by decide +kernel)), (pv_wg5 28 (by decide +kernel)), (pv_wg5 58 (by decide +kernel)), ⟨by decide, by decide⟩, (pv_wg5 42 (by decide +kernel)), (pv_wg5 43 (by decide +kernel)), rfl⟩
theorem lu_X11_331_9 : pv_LU RX11 331 9 ⟨"TwoRopes$Dance", "steps", "(I)I"⟩ mX3_steps := ⟨"TwoRopes$Dance", (RX9, TX9, 5), prog_5_method_6_code, 2, (some .int), rfl, (pv_wg5 27 (by decide +kernel)), (pv_wg5 30 (by decide +kernel)), (pv_wg5 28 (by decide +kernel)), (pv_wg5 58 (by decide +kernel)), ⟨by decide, by decide⟩, (pv_wg5 50 (by decide +kernel)), (pv_wg5 28 (by decide +kernel)), rfl⟩
theorem lu_X11_331_10 : pv_LU RX11 331 10 ⟨"TwoRopes$Dance", "steps", "(I)I"⟩ mX10_steps := ⟨"TwoRopes$Dance", (RX10, TX10, 5), prog_5_method_6_code, 2, (some .int), rfl, (pv_wg5 27 (by decide +kernel)), (pv_wg5 30 (by decide +kernel)), (pv_wg5 28 (by decide +kernel)), (pv_wg5 58 (by decide +kernel)), ⟨by decide, by decide⟩, (pv_wg5 51 (by decide +kernel)), (pv_wg5 52 (by decide +kernel)), rfl⟩
theorem lu_X5_13_5 : pv_LU RX5 13 5 ⟨"TwoRopes$Many", "ran", "(I)V"⟩ mX3_ran := ⟨"TwoRopes$Dance", (RX5, TX5, 5), prog_5_method_4_code, 2, none, rfl, (pv_wg5 36 (by decide +kernel)), (pv_wg5 37 (by decide +kernel)), (pv_wg5 7 (by decide +kernel)), (pv_wg5 8 (by decide +kernel)), ⟨by decide, by decide⟩, (pv_wg5 38 (by decide +kernel)), (pv_wg5 7 (by decide +kernel)), rfl⟩
theorem lsx_X5_17 : pv_LSX RX5 17 ⟨"TwoRopes$Change", "steps", "(I)I"⟩ mX3_steps := ⟨(pv_wg5 39 (by decide +kernel)), (pv_wg5 40 (by decide +kernel)), (pv_wg2 195 (by decide +kernel)), (pv_wg2 171 (by decide +kernel)), (pv_wg5 28 (by decide +kernel)), by decide +kernel, rfl, rfl⟩
theorem lu_X6_13_6 : pv_LU RX6 13 6 ⟨"TwoRopes$Round", "ran", "(I)V"⟩ mX3_ran := ⟨"TwoRopes$Dance", (RX6, TX6, 5), prog_5_method_4_code, 2, none, rfl, (pv_wg5 45 (by decide +kernel)), (pv_wg5 46 (by decide +kernel)), (pv_wg5 7 (by decide +kernel)), (pv_wg5 8 (by decide +kernel)), ⟨by decide, by decide⟩, (pv_wg5 47 (by decide +kernel)), (pv_wg5 7 (by decide +kernel)), rfl⟩
theorem lsx_X6_21 : pv_LSX RX6 21 ⟨"TwoRopes$Turn", "steps", "(I)I"⟩ mX3_steps := ⟨(pv_wg5 48 (by decide +kernel)), (pv_wg5 49 (by decide +kernel)), (pv_wg2 231 (by decide +kernel)), (pv_wg2 207 (by decide +kernel)), (pv_wg5 28 (by decide +kernel)), by decide +kernel, rfl, rfl⟩
theorem lu_X10_7_10 : pv_LU RX10 7 10 ⟨"TwoRopes$Under", "ran", "(I)V"⟩ mX3_ran := ⟨"TwoRopes$Dance", (RX10, TX10, 5), prog_5_method_4_code, 2, none, rfl, (pv_wg5 54 (by decide +kernel)), (pv_wg5 55 (by decide +kernel)), (pv_wg5 7 (by decide +kernel)), (pv_wg5 8 (by decide +kernel)), ⟨by decide, by decide⟩, (pv_wg5 56 (by decide +kernel)), (pv_wg5 7 (by decide +kernel)), rfl⟩
theorem lsx_X10_13 : pv_LSX RX10 13 ⟨"TwoRopes$Change", "steps", "(I)I"⟩ mX3_steps := ⟨(pv_wg5 57 (by decide +kernel)), (pv_wg5 40 (by decide +kernel)), (pv_wg2 183 (by decide +kernel)), (pv_wg2 171 (by decide +kernel)), (pv_wg5 28 (by decide +kernel)), by decide +kernel, rfl, rfl⟩
theorem lu_X3_30_0 : pv_LU RX3 30 0 ⟨"TwoRopes$Dance", "calls", "(I)I"⟩ mX0_calls := ⟨"TwoRopes$Dance", (RX0, TX0, 5), prog_5_method_5_code, 2, (some .int), rfl, (pv_wg5 59 (by decide +kernel)), (pv_wg4 239 (by decide +kernel)), (pv_wg4 237 (by decide +kernel)), (pv_wg5 25 (by decide +kernel)), ⟨by decide, by decide⟩, (pv_wg5 0 (by decide +kernel)), (pv_wg5 1 (by decide +kernel)), rfl⟩
theorem lu_X3_30_1 : pv_LU RX3 30 1 ⟨"TwoRopes$Dance", "calls", "(I)I"⟩ mX1_calls := ⟨"TwoRopes$Dance", (RX1, TX1, 5), prog_5_method_5_code, 2, (some .int), rfl, (pv_wg5 59 (by decide +kernel)), (pv_wg4 239 (by decide +kernel)), (pv_wg4 237 (by decide +kernel)), (pv_wg5 25 (by decide +kernel)), ⟨by decide, by decide⟩, (pv_wg5 12 (by decide +kernel)), (pv_wg5 13 (by decide +kernel)), rfl⟩
theorem lv_X3_30_3 : pv_LV RX3 30 3 mX3_calls := ⟨(pv_wg5 59 (by decide +kernel)), (pv_wg4 237 (by decide +kernel)), (RX3, TX3, 5), rfl, (pv_wg4 238 (by decide +kernel))⟩
theorem lu_X3_30_3 : pv_LU RX3 30 3 ⟨"TwoRopes$Dance", "calls", "(I)I"⟩ mX3_calls := ⟨"TwoRopes$Dance", (RX3, TX3, 5), prog_5_method_5_code, 2, (some .int), rfl, (pv_wg5 59 (by decide +kernel)), (pv_wg4 239 (by decide +kernel)), (pv_wg4 237 (by decide +kernel)), (pv_wg5 25 (by decide +kernel)), ⟨by decide, by decide⟩, (pv_wg4 238 (by decide +kernel)), (pv_wg4 237 (by decide +kernel)), rfl⟩
theorem lu_X3_30_5 : pv_LU RX3 30 5 ⟨"TwoRopes$Dance", "calls", "(I)I"⟩ mX1_calls := ⟨"TwoRopes$Dance", (RX5, TX5, 5), prog_5_method_5_code, 2, (some .int), rfl, (pv_wg5 59 (by decide +kernel)), (pv_wg4 239 (by decide +kernel)), (pv_wg4 237 (by decide +kernel)), (pv_wg5 25 (by decide +kernel)), ⟨by decide, by decide⟩, (pv_wg5 21 (by decide +kernel)), (pv_wg5 13 (by decide +kernel)), rfl⟩
theorem lu_X3_30_6 : pv_LU RX3 30 6 ⟨"TwoRopes$Dance", "calls", "(I)I"⟩ mX3_calls := ⟨"TwoRopes$Dance", (RX6, TX6, 5), prog_5_method_5_code, 2, (some .int), rfl, (pv_wg5 59 (by decide +kernel)), (pv_wg4 239 (by decide +kernel)), (pv_wg4 237 (by decide +kernel)), (pv_wg5 25 (by decide +kernel)), ⟨by decide, by decide⟩, (pv_wg5 22 (by decide +kernel)), (pv_wg4 237 (by decide +kernel)), rfl⟩
theorem lu_X3_30_9 : pv_LU RX3 30 9 ⟨"TwoRopes$Dance", "calls", "(I)I"⟩ mX3_calls := ⟨"TwoRopes$Dance", (RX9, TX9, 5), prog_5_method_5_code, 2, (some .int), rfl, (pv_wg5 59 (by decide +kernel)), (pv_wg4 239 (by decide +kernel)), (pv_wg4 237 (by decide +kernel)), (pv_wg5 25 (by decide +kernel)), ⟨by decide, by decide⟩, (pv_wg5 23 (by decide +kernel)), (pv_wg4 237 (by decide +kernel)), rfl⟩
theorem lu_X3_30_10 : pv_LU RX3 30 10 ⟨"TwoRopes$Dance", "calls", "(I)I"⟩ mX1_calls := ⟨"TwoRopes$Dance", (RX10, TX10, 5), prog_5_method_5_code, 2, (some .int), rfl, (pv_wg5 59 (by decide +kernel)), (pv_wg4 239 (by decide +kernel)), (pv_wg4 237 (by decide +kernel)), (pv_wg5 25 (by decide +kernel)), ⟨by decide, by decide⟩, (pv_wg5 24 (by decide +kernel)), (pv_wg5 13 (by decide +kernel)), rfl⟩
theorem lu_X11_333_0 : pv_LU RX11 333 0 ⟨"TwoRopes$Dance", "knots", "(I)I"⟩ mX9_knots := ⟨"TwoRopes$Dance", (RX0, TX0, 5), prog_5_method_7_code, 2, (some .int), rfl, (pv_wg5 60 (by decide +kernel)), (pv_wg5 63 (by decide +kernel)), (pv_wg5 61 (by decide +kernel)), (pv_wg5 86 (by decide +kernel)), ⟨by decide, by decide⟩, (pv_wg5 64 (by decide +kernel)), (pv_wg5 65 (by decide +kernel)), rfl⟩
theorem lu_X11_333_1 : pv_LU RX11 333 1 ⟨"TwoRopes$Dance", "knots", "(I)I"⟩ mX3_knots := ⟨"TwoRopes$Dance", (RX1, TX1, 5), prog_5_method_7_code, 2, (some .int), rfl, (pv_wg5 60 (by decide +kernel)), (pv_wg5 63 (by decide +kernel)), (pv_wg5 61 (by decide +kernel)), (pv_wg5 86 (by decide +kernel)), ⟨by decide, by decide⟩, (pv_wg5 73 (by decide +kernel)), (pv_wg5 61 (by decide +kernel)), rfl⟩
theorem lv_X11_333_3 : pv_LV RX11 333 3 mX3_knots := ⟨(pv_wg5 60 (by decide +kernel)), (pv_wg5 61 (by decide +kernel)), (RX3, TX3, 5), rfl, (pv_wg5 62 (by decide +kernel))⟩
theorem lu_X11_333_3 : pv_LU RX11 333 3 ⟨"TwoRopes$Dance", "knots", "(I)I"⟩ mX3_knots := ⟨"TwoRopes$Dance", (RX3, TX3, 5), prog_5_method_7_code, 2, (some .int), rfl, (pv_wg5 60 (by decide +kernel)), (pv_wg5 63 (by decide +kernel)), (pv_wg5 61 (by decide +kernel)), (pv_wg5 86 (by decide +kernel)), ⟨by decide, by decide⟩, (pv_wg5 62 (by decide +kernel)), (pv_wg5 61 (by decide +kernel)), rfl⟩
theorem lu_X11_333_5 : pv_LU RX11 333 5 ⟨"TwoRopes$Dance", "knots", "(I)I"⟩ mX5_knots := ⟨"TwoRopes$Dance", (RX5, TX5, 5), prog_5_method_7_code, 2, (some .int), rfl, (pv_wg5 60 (by decide +kernel)), (pv_wg5 63 (by decide +kernel)), (pv_wg5 61 (by decide +kernel)), (pv_wg5 86 (by decide +kernel)), ⟨by decide, by decide⟩, (pv_wg5 74 (by decide +kernel)), (pv_wg5 75 (by decide +kernel)), rfl⟩
theorem lu_X11_333_6 : pv_LU RX11 333 6 ⟨"TwoRopes$Dance", "knots", "(I)I"⟩ mX6_knots := ⟨"TwoRopes$Dance", (RX6, TX6, 5), prog_5_method_7_code, 2, (some .int), rfl, (pv_wg5 60 (by decide +kernel)), (pv_wg5 63 (by decide +kernel)), (pv_wg5 61 (by decide +kernel)), (pv_wg5 86 (by decide +kernel)), ⟨by decide, by decide⟩, (pv_wg5 80 (by decide +kernel)), (pv_wg5 81 (by decide +kernel)), rfl⟩
theorem lu_X11_333_9 : pv_LU RX11 333 9 ⟨"TwoRopes$Dance", "knots", "(I)I"⟩ mX9_knots := ⟨"TwoRopes$Dance", (RX9, TX9, 5), prog_5_method_7_code, 2, (some .int), rfl, (pv_wg5 60 (by decide +kernel)), (pv_wg5 63 (by decide +kernel)), (pv_wg5 61 (by decide +kernel)), (pv_wg5 86 (by decide +kernel)), ⟨by decide, by decide⟩, (pv_wg5 84 (by decide +kernel)), (pv_wg5 65 (by decide +kernel)), rfl⟩
theorem lu_X11_333_10 : pv_LU RX11 333 10 ⟨"TwoRopes$Dance", "knots", "(I)I"⟩ mX3_knots := ⟨"TwoRopes$Dance", (RX10, TX10, 5), prog_5_method_7_code, 2, (some .int), rfl, (pv_wg5 60 (by decide +kernel)), (pv_wg5 63 (by decide +kernel)), (pv_wg5 61 (by decide +kernel)), (pv_wg5 86 (by decide +kernel)), ⟨by decide, by decide⟩, (pv_wg5 85 (by decide +kernel)), (pv_wg5 61 (by decide +kernel)), rfl⟩
theorem lu_X9_19_0 : pv_LU RX9 19 0 ⟨"TwoRopes$Turn", "ran", "(I)V"⟩ mX3_ran := ⟨"TwoRopes$Dance", (RX0, TX0, 5), prog_5_method_4_code, 2, none, rfl, (pv_wg5 67 (by decide +kernel)), (pv_wg5 68 (by decide +kernel)), (pv_wg5 7 (by decide +kernel)), (pv_wg5 8 (by decide +kernel)), ⟨by decide, by decide⟩, (pv_wg5 69 (by decide +kernel)), (pv_wg5 7 (by decide +kernel)), rfl⟩
theorem lu_X9_19_6 : pv_LU RX9 19 6 ⟨"TwoRopes$Turn", "ran", "(I)V"⟩ mX3_ran := ⟨"TwoRopes$Dance", (RX6, TX6, 5), prog_5_method_4_code, 2, none, rfl, (pv_wg5 67 (by decide +kernel)), (pv_wg5 68 (by decide +kernel)), (pv_wg5 7 (by decide +kernel)), (pv_wg5 8 (by decide +kernel)), ⟨by decide, by decide⟩, (pv_wg5 70 (by decide +kernel)), (pv_wg5 7 (by decide +kernel)), rfl⟩
theorem lu_X9_19_9 : pv_LU RX9 19 9 ⟨"TwoRopes$Turn", "ran", "(I)V"⟩ mX3_ran := ⟨"TwoRopes$Dance", (RX9, TX9, 5), prog_5_method_4_code, 2, none, rfl, (pv_wg5 67 (by decide +kernel)), (pv_wg5 68 (by decide +kernel)), (pv_wg5 7 (by decide +kernel)), (pv_wg5 8 (by decide +kernel)), ⟨by decide, by decide⟩, (pv_wg5 71 (by decide +kernel)), (pv_wg5 7 (by decide +kernel)), rfl⟩
theorem lsu_X9_22 : pv_LSU RX9 22 mX3_knots := ⟨(pv_wg5 72 (by decide +kernel)), (pv_wg5 63 (by decide +kernel)), (pv_wg2 207 (by decide +kernel)), (pv_wg5 61 (by decide +kernel)), by decide +kernel⟩
theorem lu_X9_22_0 : pv_LU RX9 22 0 ⟨"TwoRopes$Dance", "knots", "(I)I"⟩ mX9_knots := ⟨"TwoRopes$Dance", (RX0, TX0, 5), prog_5_method_7_code, 2, (some .int), rfl, (pv_wg5 72 (by decide +kernel)), (pv_wg5 63 (by decide +kernel)), (pv_wg5 61 (by decide +kernel)), (pv_wg5 86 (by decide +kernel)), ⟨by decide, by decide⟩, (pv_wg5 64 (by decide +kernel)), (pv_wg5 65 (by decide +kernel)), rfl⟩
theorem lu_X9_22_1 : pv_LU RX9 22 1 ⟨"TwoRopes$Dance", "knots", "(I)I"⟩ mX3_knots := ⟨"TwoRopes$Dance", (RX1, TX1, 5), prog_5_method_7_code, 2, (some .int), rfl, (pv_wg5 72 (by decide +kernel)), (pv_wg5 63 (by decide +kernel)), (pv_wg5 61 (by decide +kernel)), (pv_wg5 86 (by decide +kernel)), ⟨by decide, by decide⟩, (pv_wg5 73 (by decide +kernel)), (pv_wg5 61 (by decide +kernel)), rfl⟩
theorem lv_X9_22_3 : pv_LV RX9 22 3 mX3_knots := ⟨(pv_wg5 72 (by decide +kernel)), (pv_wg5 61 (by decide +kernel)), (RX3, TX3, 5), rfl, (pv_wg5 62 (by decide +kernel))⟩
theorem lu_X9_22_3 : pv_LU RX9 22 3 ⟨"TwoRopes$Dance", "knots", "(I)I"⟩ mX3_knots := ⟨"TwoRopes$Dance", (RX3, TX3, 5), prog_5_method_7_code, 2, (some .int), rfl, (pv_wg5 72 (by decide +kernel)), (pv_wg5 63 (by decide +kernel)), (pv_wg5 61 (by decide +kernel)), (pv_wg5 86 (by decide +kernel)), ⟨by decide, by decide⟩, (pv_wg5 62 (by decide +kernel)), (pv_wg5 61 (by decide +kernel)), rfl⟩
theorem lu_X9_22_5 : pv_LU RX9 22 5 ⟨"TwoRopes$Dance", "knots", "(I)I"⟩ mX5_knots := ⟨"TwoRopes$Dance", (RX5, TX5, 5), prog_5_method_7_code, 2, (some .int), rfl, (pv_wg5 72 (by decide +kernel)), (pv_wg5 63 (by decide +kernel)), (pv_wg5 61 (by decide +kernel)), (pv_wg5 86 (by decide +kernel)), ⟨by decide, by decide⟩, (pv_wg5 74 (by decide +kernel)), (pv_wg5 75 (by decide +kernel)), rfl⟩
theorem lu_X9_22_6 : pv_LU RX9 22 6 ⟨"TwoRopes$Dance", "knots", "(I)I"⟩ mX6_knots := ⟨"TwoRopes$Dance", (RX6, TX6, 5), prog_5_method_7_code, 2, (some .int), rfl, (pv_wg5 72 (by decide +kernel)), (pv_wg5 63 (by decide +kernel)), (pv_wg5 61 (by decide +kernel)), (pv_wg5 86 (by decide +kernel)), ⟨by decide, by decide⟩, (pv_wg5 80 (by decide +kernel)), (pv_wg5 81 (by decide +kernel)), rfl⟩
theorem lu_X9_22_9 : pv_LU RX9 22 9 ⟨"TwoRopes$Dance", "knots", "(I)I"⟩ mX9_knots := ⟨"TwoRopes$Dance", (RX9, TX9, 5), prog_5_method_7_code, 2, (some .int), rfl, (pv_wg5 72 (by decide +kernel)), (pv_wg5 63 (by decide +kernel)), (pv_wg5 61 (by decide +kernel)), (pv_wg5 86 (by decide +kernel)), ⟨by decide, by decide⟩, (pv_wg5 84 (by decide +kernel)), (pv_wg5 65 (by decide +kernel)), rfl⟩
theorem lu_X9_22_10 : pv_LU RX9 22 10 ⟨"TwoRopes$Dance", "knots", "(I)I"⟩ mX3_knots := ⟨"TwoRopes$Dance", (RX10, TX10, 5), prog_5_method_7_code, 2, (some .int), rfl, (pv_wg5 72 (by decide +kernel)), (pv_wg5 63 (by decide +kernel)), (pv_wg5 61 (by decide +kernel)), (pv_wg5 86 (by decide +kernel)), ⟨by decide, by decide⟩, (pv_wg5 85 (by decide +kernel)), (pv_wg5 61 (by decide +kernel)), rfl⟩
theorem lsx_X5_21 : pv_LSX RX5 21 ⟨"TwoRopes$Change", "knots", "(I)I"⟩ mX3_knots := ⟨(pv_wg5 77 (by decide +kernel)), (pv_wg5 78 (by decide +kernel)), (pv_wg2 195 (by decide +kernel)), (pv_wg2 171 (by decide +kernel)), (pv_wg5 61 (by decide +kernel)), by decide +kernel, rfl, rfl⟩
theorem lsu_X6_17 : pv_LSU RX6 17 mX9_knots := ⟨(pv_wg5 83 (by decide +kernel)), (pv_wg7 234 (by decide +kernel)), (pv_wg2 231 (by decide +kernel)), (pv_wg5 65 (by decide +kernel)), by decide +kernel⟩
theorem lu_X3_34_0 : pv_LU RX3 34 0 ⟨"TwoRopes$Dance", "steps", "(I)I"⟩ mX3_steps := ⟨"TwoRopes$Dance", (RX0, TX0, 5), prog_5_method_6_code, 2, (some .int), rfl, (pv_wg5 87 (by decide +kernel)), (pv_wg5 30 (by decide +kernel)), (pv_wg5 28 (by decide +kernel)), (pv_wg5 58 (by decide +kernel)), ⟨by decide, by decide⟩, (pv_wg5 31 (by decide +kernel)), (pv_wg5 28 (by decide +kernel)), rfl⟩
theorem lu_X3_34_1 : pv_LU RX3 34 1 ⟨"TwoRopes$Dance", "steps", "(I)I"⟩ mX3_steps := ⟨"TwoRopes$Dance", (RX1, TX1, 5), prog_5_method_6_code, 2, (some .int), rfl, (pv_wg5 87 (by decide +kernel)), (pv_wg5 30 (by decide +kernel)), (pv_wg5 28 (by decide +kernel)), (pv_wg5 58 (by decide +kernel)), ⟨by decide, by decide⟩, (pv_wg5 32 (by decide +kernel)), (pv_wg5 28 (by decide +kernel)), rfl⟩
theorem lv_X3_34_3 : pv_LV RX3 34 3 mX3_steps := ⟨(pv_wg5 87 (by decide +kernel)), (pv_wg5 28 (by decide +kernel)), (RX3, TX3, 5), rfl, (pv_wg5 29 (by decide +kernel))⟩
theorem lu_X3_34_3 : pv_LU RX3 34 3 ⟨"TwoRopes$Dance", "steps", "(I)I"⟩ mX3_steps := ⟨"TwoRopes$Dance", (RX3, TX3, 5), prog_5_method_6_code, 2, (some .int), rfl, (pv_wg5 87 (by decide +kernel)), (pv_wg5 30 (by decide +kernel)), (pv_wg5 28 (by decide +kernel)), (pv_wg5 58 (by decide +kernel)), ⟨by decide, by decide⟩, (pv_wg5 29 (by decide +kernel)), (pv_wg5 28 (by decide +kernel)), rfl⟩
theorem lu_X3_34_5 : pv_LU RX3 34 5 ⟨"TwoRopes$Dance", "steps", "(I)I"⟩ mX5_steps := ⟨"TwoRopes$Dance", (RX5, TX5, 5), prog_5_method_6_code, 2, (some .int), rfl, (pv_wg5 87 (by decide +kernel)), (pv_wg5 30 (by decide +kernel)), (pv_wg5 28 (by decide +kernel)), (pv_wg5 58 (by decide +kernel)), ⟨by decide, by decide⟩, (pv_wg5 33 (by decide +kernel)), (pv_wg5 34 (by decide +kernel)), rfl⟩
theorem lu_X3_34_6 : pv_LU RX3 34 6 ⟨"TwoRopes$Dance", "steps", "(I)I"⟩ mX6_steps := ⟨"TwoRopes$Dance", (RX6, TX6, 5), prog_5_method_6_code, 2, (some .int), rfl, (pv_wg5 87 (by decide +kernel)), (pv_wg5 30 (by decide +kernel)), (pv_wg5 28 (by decide +kernel)), (pv_wg5 58 (by decide +kernel)), ⟨by decide, by decide⟩, (pv_wg5 42 (by decide +kernel)), (pv_wg5 43 (by decide +kernel)), rfl⟩
theorem lu_X3_34_9 : pv_LU RX3 34 9 ⟨"TwoRopes$Dance", "steps", "(I)I"⟩ mX3_steps := ⟨"TwoRopes$Dance", (RX9, TX9, 5), prog_5_method_6_code, 2, (some .int), rfl, (pv_wg5 87 (by decide +kernel)), (pv_wg5 30 (by decide +kernel)), (pv_wg5 28 (by decide +kernel)), (pv_wg5 58 (by decide +kernel)), ⟨by decide, by decide⟩, (pv_wg5 50 (by decide +kernel)), (pv_wg5 28 (by decide +kernel)), rfl⟩
theorem lu_X3_34_10 : pv_LU RX3 34 10 ⟨"TwoRopes$Dance", "steps", "(I)I"⟩ mX10_steps := ⟨"TwoRopes$Dance", (RX10, TX10, 5), prog_5_method_6_code, 2, (some .int), rfl, (pv_wg5 87 (by decide +kernel)), (pv_wg5 30 (by decide +kernel)), (pv_wg5 28 (by decide +kernel)), (pv_wg5 58 (by decide +kernel)), ⟨by decide, by decide⟩, (pv_wg5 51 (by decide +kernel)), (pv_wg5 52 (by decide +kernel)), rfl⟩
theorem lv_L_189_11 : pv_LV RL 189 11 mX11_trace := ⟨(pv_wg5 88 (by decide +kernel)), (pv_wg5 89 (by decide +kernel)), (RX11, TX11, 13), rfl, (pv_wg5 90 (by decide +kernel))⟩
theorem lv_L_193_11 : pv_LV RL 193 11 mX11_image := ⟨(pv_wg5 92 (by decide +kernel)), (pv_wg5 93 (by decide +kernel)), (RX11, TX11, 13), rfl, (pv_wg5 94 (by decide +kernel))⟩
theorem lv_L_197_11 : pv_LV RL 197 11 mX11_restore := ⟨(pv_wg5 96 (by decide +kernel)), (pv_wg5 97 (by decide +kernel)), (RX11, TX11, 13), rfl, (pv_wg5 98 (by decide +kernel))⟩
theorem lv_L_201_11 : pv_LV RL 201 11 mX11_status := ⟨(pv_wg5 100 (by decide +kernel)), (pv_wg5 101 (by decide +kernel)), (RX11, TX11, 13), rfl, (pv_wg5 102 (by decide +kernel))⟩
theorem li_L_12 : pv_LI RL 12 mX12_init := ⟨Or.inl (pv_wg5 106 (by decide +kernel)), rfl, rfl, (pv_wg5 107 (by decide +kernel))⟩
theorem ol_X12_1 : Cond.methodLink RX12 1 Lib.objectInit ∈ lw_g := (pv_wg5 109 (by decide +kernel))
theorem lv_L_17_12 : pv_LV RL 17 12 mX12_row := ⟨(pv_wg6 54 (by decide +kernel)), (pv_wg6 55 (by decide +kernel)), (RX12, TX12, 61), rfl, (pv_wg6 56 (by decide +kernel))⟩
theorem lv_X12_111_12 : pv_LV RX12 111 12 mX12_isShelf := ⟨(pv_wg6 58 (by decide +kernel)), (pv_wg6 60 (by decide +kernel)), (RX12, TX12, 61), rfl, (pv_wp 33 (q := (yX12_isShelf, 61)) (by decide +kernel))⟩
theorem lv_X12_115_12 : pv_LV RX12 115 12 mX12_no := ⟨(pv_wg6 62 (by decide +kernel)), (pv_wg6 64 (by decide +kernel)), (RX12, TX12, 61), rfl, (pv_wp 34 (q := (yX12_no, 61)) (by decide +kernel))⟩
theorem lv_L_24_12 : pv_LV RL 24 12 mX12_set := ⟨(pv_wg6 66 (by decide +kernel)), (pv_wg6 67 (by decide +kernel)), (RX12, TX12, 61), rfl, (pv_wg6 68 (by decide +kernel))⟩
theorem lv_L_29_12 : pv_LV RL 29 12 mX12_copy := ⟨(pv_wg6 70 (by decide +kernel)), (pv_wg6 71 (by decide +kernel)), (RX12, TX12, 61), rfl, (pv_wg6 72 (by decide +kernel))⟩
theorem lv_L_34_12 : pv_LV RL 34 12 mX12_element := ⟨(pv_wg6 74 (by decide +kernel)), (pv_wg6 75 (by decide +kernel)), (RX12, TX12, 61), rfl, (pv_wg6 76 (by decide +kernel))⟩
theorem lv_L_39_12 : pv_LV RL 39 12 mX12_show := ⟨(pv_wg6 78 (by decide +kernel)), (pv_wg6 79 (by decide +kernel)), (RX12, TX12, 61), rfl, (pv_wg6 80 (by decide +kernel))⟩
theorem lv_X12_119_12 : pv_LV RX12 119 12 mX12_isFigure := ⟨(pv_wg6 82 (by decide +kernel)), (pv_wg6 84 (by decide +kernel)), (RX12, TX12, 61), rfl, (pv_wp 35 (q := (yX12_isFigure, 61)) (by decide +kernel))⟩
theorem lv_L_44_12 : pv_LV RL 44 12 mX12_holds := ⟨(pv_wg6 86 (by decide +kernel)), (pv_wg6 87 (by decide +kernel)), (RX12, TX12, 61), rfl, (pv_wg6 88 (by decide +kernel))⟩
theorem lv_L_48_12 : pv_LV RL 48 12 mX12_says := ⟨(pv_wg6 90 (by decide +kernel)), (pv_wg6 91 (by decide +kernel)), (RX12, TX12, 61), rfl, (pv_wg6 92 (by decide +kernel))⟩
theorem lv_X12_122_12 : pv_LV RX12 122 12 mX12_isChange := ⟨(pv_wg6 94 (by decide +kernel)), (pv_wg6 96 (by decide +kernel)), (RX12, TX12, 61), rfl, (pv_wp 36 (q := (yX12_isChange, 61)) (by decide +kernel))⟩
theorem lv_X12_125_12 : pv_LV RX12 125 12 mX12_isTurn := ⟨(pv_wg6 98 (by decide +kernel)), (pv_wg6 100 (by decide +kernel)), (RX12, TX12, 61), rfl, (pv_wp 37 (q := (yX12_isTurn, 61)) (by decide +kernel))⟩
theorem lv_L_52_12 : pv_LV RL 52 12 mX12_figure := ⟨(pv_wg6 102 (by decide +kernel)), (pv_wg6 103 (by decide +kernel)), (RX12, TX12, 61), rfl, (pv_wg6 104 (by decide +kernel))⟩
theorem lv_X12_131_12 : pv_LV RX12 131 12 mX12_adds := ⟨(pv_wg6 106 (by decide +kernel)), (pv_wg6 108 (by decide +kernel)), (RX12, TX12, 61), rfl, (pv_wp 38 (q := (yX12_adds, 61)) (by decide +kernel))⟩
theorem lv_L_56_12 : pv_LV RL 56 12 mX12_figureOf := ⟨(pv_wg6 110 (by decide +kernel)), (pv_wg6 111 (by decide +kernel)), (RX12, TX12, 61), rfl, (pv_wg6 112 (by decide +kernel))⟩
theorem lv_L_61_12 : pv_LV RL 61 12 mX12_start := ⟨(pv_wg6 114 (by decide +kernel)), (pv_wg6 115 (by decide +kernel)), (RX12, TX12, 61), rfl, (pv_wg6 116 (by decide +kernel))⟩
theorem lv_X12_143_12 : pv_LV RX12 143 12 mX12_isNumber := ⟨(pv_wg6 118 (by decide +kernel)), (pv_wg6 120 (by decide +kernel)), (RX12, TX12, 61), rfl, (pv_wp 39 (q := (yX12_isNumber, 61)) (by decide +kernel))⟩
theorem lv_X12_139_12 : pv_LV RX12 139 12 mX12_divides := ⟨(pv_wg6 124 (by decide +kernel)), (pv_wg6 126 (by decide +kernel)), (RX12, TX12, 61), rfl, (pv_wp 40 (q := (yX12_divides, 61)) (by decide +kernel))⟩
theorem lv_L_65_12 : pv_LV RL 65 12 mX12_barn := ⟨(pv_wg6 128 (by decide +kernel)), (pv_wg6 129 (by decide +kernel)), (RX12, TX12, 61), rfl, (pv_wg6 130 (by decide +kernel))⟩
theorem lv_X12_128_12 : pv_LV RX12 128 12 mX12_wants := ⟨(pv_wg6 132 (by decide +kernel)), (pv_wg6 134 (by decide +kernel)), (RX12, TX12, 61), rfl, (pv_wp 41 (q := (yX12_wants, 61)) (by decide +kernel))⟩
theorem lv_X12_219_12 : pv_LV RX12 219 12 mX12_all := ⟨(pv_wg6 136 (by decide +kernel)), (pv_wg6 138 (by decide +kernel)), (RX12, TX12, 61), rfl, (pv_wp 42 (q := (yX12_all, 61)) (by decide +kernel))⟩
theorem lv_X12_209_12 : pv_LV RX12 209 12 mX12_keeps := ⟨(pv_wg6 140 (by decide +kernel)), (pv_wg6 142 (by decide +kernel)), (RX12, TX12, 61), rfl, (pv_wp 43 (q := (yX12_keeps, 61)) (by decide +kernel))⟩
theorem lv_X12_223_12 : pv_LV RX12 223 12 mX12_item := ⟨(pv_wg6 144 (by decide +kernel)), (pv_wg6 146 (by decide +kernel)), (RX12, TX12, 61), rfl, (pv_wp 44 (q := (yX12_item, 61)) (by decide +kernel))⟩
theorem lv_X12_188_12 : pv_LV RX12 188 12 mX12_isWordAt := ⟨(pv_wg6 148 (by decide +kernel)), (pv_wg6 150 (by decide +kernel)), (RX12, TX12, 61), rfl, (pv_wp 45 (q := (yX12_isWordAt, 61)) (by decide +kernel))⟩
theorem lv_X12_191_12 : pv_LV RX12 191 12 mX12_isFull := ⟨(pv_wg6 152 (by decide +kernel)), (pv_wg6 154 (by decide +kernel)), (RX12, TX12, 61), rfl, (pv_wp 46 (q := (yX12_isFull, 61)) (by decide +kernel))⟩
theorem lv_X12_185_12 : pv_LV RX12 185 12 mX12_wrong := ⟨(pv_wg6 156 (by decide +kernel)), (pv_wg6 158 (by decide +kernel)), (RX12, TX12, 61), rfl, (pv_wp 47 (q := (yX12_wrong, 61)) (by decide +kernel))⟩
theorem lv_X12_194_12 : pv_LV RX12 194 12 mX12_word := ⟨(pv_wg6 160 (by decide +kernel)), (pv_wg6 162 (by decide +kernel)), (RX12, TX12, 61), rfl, (pv_wp 48 (q := (yX12_word, 61)) (by decide +kernel))⟩
theorem lv_X12_198_12 : pv_LV RX12 198 12 mX12_top := ⟨(pv_wg6 164 (by decide +kernel)), (pv_wg6 166 (by decide +kernel)), (RX12, TX12, 61), rfl, (pv_wp 49 (q := (yX12_top, 61)) (by decide +kernel))⟩
theorem lv_X12_202_12 : pv_LV RX12 202 12 mX12_number := ⟨(pv_wg6 168 (by decide +kernel)), (pv_wg6 170 (by decide +kernel)), (RX12, TX12, 61), rfl, (pv_wp 50 (q := (yX12_number, 61)) (by decide +kernel))⟩
theorem lv_X12_181_12 : pv_LV RX12 181 12 mX12_isDigit := ⟨(pv_wg6 172 (by decide +kernel)), (pv_wg6 174 (by decide +kernel)), (RX12, TX12, 61), rfl, (pv_wp 51 (q := (yX12_isDigit, 61)) (by decide +kernel))⟩
theorem lv_X12_206_12 : pv_LV RX12 206 12 mX12_calls := ⟨(pv_wg6 176 (by decide +kernel)), (pv_wg6 178 (by decide +kernel)), (RX12, TX12, 61), rfl, (pv_wp 52 (q := (yX12_calls, 61)) (by decide +kernel))⟩
theorem lv_X12_230_12 : pv_LV RX12 230 12 mX12_begins := ⟨(pv_wg6 180 (by decide +kernel)), (pv_wg6 182 (by decide +kernel)), (RX12, TX12, 61), rfl, (pv_wp 53 (q := (yX12_begins, 61)) (by decide +kernel))⟩
theorem lv_X12_233_12 : pv_LV RX12 233 12 mX12_figured := ⟨(pv_wg6 184 (by decide +kernel)), (pv_wg6 186 (by decide +kernel)), (RX12, TX12, 61), rfl, (pv_wp 54 (q := (yX12_figured, 61)) (by decide +kernel))⟩
theorem lv_X12_163_12 : pv_LV RX12 163 12 mX12_more := ⟨(pv_wg6 188 (by decide +kernel)), (pv_wg6 190 (by decide +kernel)), (RX12, TX12, 61), rfl, (pv_wp 55 (q := (yX12_more, 61)) (by decide +kernel))⟩
theorem lv_X12_156_12 : pv_LV RX12 156 12 mX12_turns := ⟨(pv_wg6 192 (by decide +kernel)), (pv_wg6 194 (by decide +kernel)), (RX12, TX12, 61), rfl, (pv_wp 56 (q := (yX12_turns, 61)) (by decide +kernel))⟩
theorem lv_X12_159_12 : pv_LV RX12 159 12 mX12_goesOn := ⟨(pv_wg6 196 (by decide +kernel)), (pv_wg6 198 (by decide +kernel)), (RX12, TX12, 61), rfl, (pv_wp 57 (q := (yX12_goesOn, 61)) (by decide +kernel))⟩
theorem lv_X12_236_12 : pv_LV RX12 236 12 mX12_isRoom := ⟨(pv_wg6 200 (by decide +kernel)), (pv_wg6 202 (by decide +kernel)), (RX12, TX12, 61), rfl, (pv_wp 58 (q := (yX12_isRoom, 61)) (by decide +kernel))⟩
theorem lv_X12_239_12 : pv_LV RX12 239 12 mX12_truly := ⟨(pv_wg6 204 (by decide +kernel)), (pv_wg6 206 (by decide +kernel)), (RX12, TX12, 61), rfl, (pv_wp 59 (q := (yX12_truly, 61)) (by decide +kernel))⟩
theorem lv_L_70_12 : pv_LV RL 70 12 mX12_fault := ⟨(pv_wg6 208 (by decide +kernel)), (pv_wg6 209 (by decide +kernel)), (RX12, TX12, 61), rfl, (pv_wg6 210 (by decide +kernel))⟩
theorem lv_L_75_12 : pv_LV RL 75 12 mX12_now := ⟨(pv_wg6 212 (by decide +kernel)), (pv_wg6 213 (by decide +kernel)), (RX12, TX12, 61), rfl, (pv_wg6 214 (by decide +kernel))⟩
theorem lv_X12_226_12 : pv_LV RX12 226 12 mX12_noLow := ⟨(pv_wg6 216 (by decide +kernel)), (pv_wg6 218 (by decide +kernel)), (RX12, TX12, 61), rfl, (pv_wp 60 (q := (yX12_noLow, 61)) (by decide +kernel))⟩
theorem lv_L_79_12 : pv_LV RL 79 12 mX12_stand := ⟨(pv_wg6 221 (by decide +kernel)), (pv_wg6 222 (by decide +kernel)), (RX12, TX12, 61), rfl, (pv_wg6 223 (by decide +kernel))⟩
theorem lv_L_83_12 : pv_LV RL 83 12 mX12_call := ⟨(pv_wg6 225 (by decide +kernel)), (pv_wg6 226 (by decide +kernel)), (RX12, TX12, 61), rfl, (pv_wg6 227 (by decide +kernel))⟩
theorem lv_L_87_12 : pv_LV RL 87 12 mX12_judge := ⟨(pv_wg6 229 (by decide +kernel)), (pv_wg6 230 (by decide +kernel)), (RX12, TX12, 61), rfl, (pv_wg6 231 (by decide +kernel))⟩
theorem lv_X12_254_12 : pv_LV RX12 254 12 mX12_bars := ⟨(pv_wg6 233 (by decide +kernel)), (pv_wg6 235 (by decide +kernel)), (RX12, TX12, 61), rfl, (pv_wp 61 (q := (yX12_bars, 61)) (by decide +kernel))⟩
theorem lv_X12_257_12 : pv_LV RX12 257 12 mX12_danced := ⟨(pv_wg6 237 (by decide +kernel)), (pv_wg6 239 (by decide +kernel)), (RX12, TX12, 61), rfl, (pv_wp 62 (q := (yX12_danced, 61)) (by decide +kernel))⟩
theorem lv_X12_251_12 : pv_LV RX12 251 12 mX12_led := ⟨(pv_wg7 1 (by decide +kernel)), (pv_wg7 3 (by decide +kernel)), (RX12, TX12, 61), rfl, (pv_wp 63 (q := (yX12_led, 61)) (by decide +kernel))⟩
theorem lv_X12_242_12 : pv_LV RX12 242 12 mX12_intAt := ⟨(pv_wg7 5 (by decide +kernel)), (pv_wg7 7 (by decide +kernel)), (RX12, TX12, 61), rfl, (pv_wp 64 (q := (yX12_intAt, 61)) (by decide +kernel))⟩
theorem lv_L_92_12 : pv_LV RL 92 12 mX12_told := ⟨(pv_wg7 9 (by decide +kernel)), (pv_wg7 10 (by decide +kernel)), (RX12, TX12, 61), rfl, (pv_wg7 11 (by decide +kernel))⟩
theorem lv_L_96_12 : pv_LV RL 96 12 mX12_dances := ⟨(pv_wg7 13 (by decide +kernel)), (pv_wg7 14 (by decide +kernel)), (RX12, TX12, 61), rfl, (pv_wg7 15 (by decide +kernel))⟩
theorem lv_L_101_12 : pv_LV RL 101 12 mX12_repeated := ⟨(pv_wg7 17 (by decide +kernel)), (pv_wg7 18 (by decide +kernel)), (RX12, TX12, 61), rfl, (pv_wg7 19 (by decide +kernel))⟩
theorem lv_L_106_12 : pv_LV RL 106 12 mX12_same := ⟨(pv_wg7 21 (by decide +kernel)), (pv_wg7 22 (by decide +kernel)), (RX12, TX12, 61), rfl, (pv_wg7 23 (by decide +kernel))⟩
theorem lv_L_111_12 : pv_LV RL 111 12 mX12_undo := ⟨(pv_wg7 25 (by decide +kernel)), (pv_wg7 26 (by decide +kernel)), (RX12, TX12, 61), rfl, (pv_wg7 27 (by decide +kernel))⟩
theorem lv_X12_276_12 : pv_LV RX12 276 12 mX12_undone := ⟨(pv_wg7 30 (by decide +kernel)), (pv_wg7 32 (by decide +kernel)), (RX12, TX12, 61), rfl, (pv_wp 65 (q := (yX12_undone, 61)) (by decide +kernel))⟩
theorem lv_X12_266_12 : pv_LV RX12 266 12 mX12_goes := ⟨(pv_wg7 34 (by decide +kernel)), (pv_wg7 36 (by decide +kernel)), (RX12, TX12, 61), rfl, (pv_wp 66 (q := (yX12_goes, 61)) (by decide +kernel))⟩
theorem lv_L_116_12 : pv_LV RL 116 12 mX12_undoes := ⟨(pv_wg7 40 (by decide +kernel)), (pv_wg7 41 (by decide +kernel)), (RX12, TX12, 61), rfl, (pv_wg7 42 (by decide +kernel))⟩
theorem lv_L_121_12 : pv_LV RL 121 12 mX12_made := ⟨(pv_wg7 44 (by decide +kernel)), (pv_wg7 45 (by decide +kernel)), (RX12, TX12, 61), rfl, (pv_wg7 46 (by decide +kernel))⟩
theorem lv_L_126_12 : pv_LV RL 126 12 mX12_least := ⟨(pv_wg7 48 (by decide +kernel)), (pv_wg7 49 (by decide +kernel)), (RX12, TX12, 61), rfl, (pv_wg7 50 (by decide +kernel))⟩
theorem lv_X12_292_12 : pv_LV RX12 292 12 mX12_noTen := ⟨(pv_wg7 52 (by decide +kernel)), (pv_wg7 54 (by decide +kernel)), (RX12, TX12, 61), rfl, (pv_wp 67 (q := (yX12_noTen, 61)) (by decide +kernel))⟩
theorem lv_X12_295_12 : pv_LV RX12 295 12 mX12_zero := ⟨(pv_wg7 56 (by decide +kernel)), (pv_wg7 58 (by decide +kernel)), (RX12, TX12, 61), rfl, (pv_wp 68 (q := (yX12_zero, 61)) (by decide +kernel))⟩
theorem lv_X12_289_12 : pv_LV RX12 289 12 mX12_finds := ⟨(pv_wg7 60 (by decide +kernel)), (pv_wg7 62 (by decide +kernel)), (RX12, TX12, 61), rfl, (pv_wp 69 (q := (yX12_finds, 61)) (by decide +kernel))⟩
theorem lv_X12_286_12 : pv_LV RX12 286 12 mX12_step := ⟨(pv_wg7 64 (by decide +kernel)), (pv_wg7 66 (by decide +kernel)), (RX12, TX12, 61), rfl, (pv_wp 70 (q := (yX12_step, 61)) (by decide +kernel))⟩
theorem lv_L_131_12 : pv_LV RL 131 12 mX12_cheapest := ⟨(pv_wg7 68 (by decide +kernel)), (pv_wg7 69 (by decide +kernel)), (RX12, TX12, 61), rfl, (pv_wg7 70 (by decide +kernel))⟩
theorem lv_X12_317_12 : pv_LV RX12 317 12 mX12_isCost := ⟨(pv_wg7 72 (by decide +kernel)), (pv_wg7 74 (by decide +kernel)), (RX12, TX12, 61), rfl, (pv_wp 71 (q := (yX12_isCost, 61)) (by decide +kernel))⟩
theorem lv_X12_313_12 : pv_LV RX12 313 12 mX12_cheaper := ⟨(pv_wg7 76 (by decide +kernel)), (pv_wg7 78 (by decide +kernel)), (RX12, TX12, 61), rfl, (pv_wp 72 (q := (yX12_cheaper, 61)) (by decide +kernel))⟩
theorem lv_L_136_12 : pv_LV RL 136 12 mX12_side := ⟨(pv_wg7 80 (by decide +kernel)), (pv_wg7 81 (by decide +kernel)), (RX12, TX12, 61), rfl, (pv_wg7 82 (by decide +kernel))⟩
theorem lv_X12_339_12 : pv_LV RX12 339 12 mX12_isJoined := ⟨(pv_wg7 84 (by decide +kernel)), (pv_wg7 86 (by decide +kernel)), (RX12, TX12, 61), rfl, (pv_wp 73 (q := (yX12_isJoined, 61)) (by decide +kernel))⟩
theorem lv_X12_335_12 : pv_LV RX12 335 12 mX12_isSmall := ⟨(pv_wg7 88 (by decide +kernel)), (pv_wg7 90 (by decide +kernel)), (RX12, TX12, 61), rfl, (pv_wp 74 (q := (yX12_isSmall, 61)) (by decide +kernel))⟩
theorem lv_X12_342_12 : pv_LV RX12 342 12 mX12_sums := ⟨(pv_wg7 94 (by decide +kernel)), (pv_wg7 96 (by decide +kernel)), (RX12, TX12, 61), rfl, (pv_wp 75 (q := (yX12_sums, 61)) (by decide +kernel))⟩
theorem lv_X12_326_12 : pv_LV RX12 326 12 mX12_floor := ⟨(pv_wg7 98 (by decide +kernel)), (pv_wg7 100 (by decide +kernel)), (RX12, TX12, 61), rfl, (pv_wp 76 (q := (yX12_floor, 61)) (by decide +kernel))⟩
theorem lv_L_140_12 : pv_LV RL 140 12 mX12_over := ⟨(pv_wg7 103 (by decide +kernel)), (pv_wg7 104 (by decide +kernel)), (RX12, TX12, 61), rfl, (pv_wg7 105 (by decide +kernel))⟩
theorem lv_X12_346_12 : pv_LV RX12 346 12 mX12_flipP := ⟨(pv_wg7 107 (by decide +kernel)), (pv_wg7 109 (by decide +kernel)), (RX12, TX12, 61), rfl, (pv_wp 77 (q := (yX12_flipP, 61)) (by decide +kernel))⟩
theorem lv_X12_349_12 : pv_LV RX12 349 12 mX12_flipQ := ⟨(pv_wg7 111 (by decide +kernel)), (pv_wg7 113 (by decide +kernel)), (RX12, TX12, 61), rfl, (pv_wp 78 (q := (yX12_flipQ, 61)) (by decide +kernel))⟩
theorem lv_L_145_12 : pv_LV RL 145 12 mX12_closed := ⟨(pv_wg7 115 (by decide +kernel)), (pv_wg7 116 (by decide +kernel)), (RX12, TX12, 61), rfl, (pv_wg7 117 (by decide +kernel))⟩
theorem lv_L_149_12 : pv_LV RL 149 12 mX12_coloured := ⟨(pv_wg7 119 (by decide +kernel)), (pv_wg7 120 (by decide +kernel)), (RX12, TX12, 61), rfl, (pv_wg7 121 (by decide +kernel))⟩
theorem lv_L_153_12 : pv_LV RL 153 12 mX12_forgot := ⟨(pv_wg7 123 (by decide +kernel)), (pv_wg7 124 (by decide +kernel)), (RX12, TX12, 61), rfl, (pv_wg7 125 (by decide +kernel))⟩
theorem lv_X12_359_12 : pv_LV RX12 359 12 mX12_forgotten := ⟨(pv_wg7 127 (by decide +kernel)), (pv_wg7 129 (by decide +kernel)), (RX12, TX12, 61), rfl, (pv_wp 79 (q := (yX12_forgotten, 61)) (by decide +kernel))⟩
theorem lv_X12_355_12 : pv_LV RX12 355 12 mX12_forgets := ⟨(pv_wg7 131 (by decide +kernel)), (pv_wg7 133 (by decide +kernel)), (RX12, TX12, 61), rfl, (pv_wp 80 (q := (yX12_forgets, 61)) (by decide +kernel))⟩
theorem lv_L_157_12 : pv_LV RL 157 12 mX12_may := ⟨(pv_wg7 135 (by decide +kernel)), (pv_wg7 136 (by decide +kernel)), (RX12, TX12, 61), rfl, (pv_wg7 137 (by decide +kernel))⟩
theorem lv_X12_362_12 : pv_LV RX12 362 12 mX12_isLess := ⟨(pv_wg7 139 (by decide +kernel)), (pv_wg7 141 (by decide +kernel)), (RX12, TX12, 61), rfl, (pv_wp 81 (q := (yX12_isLess, 61)) (by decide +kernel))⟩
theorem lv_L_162_12 : pv_LV RL 162 12 mX12_kept := ⟨(pv_wg7 143 (by decide +kernel)), (pv_wg7 144 (by decide +kernel)), (RX12, TX12, 61), rfl, (pv_wg7 145 (by decide +kernel))⟩
theorem lv_X12_368_12 : pv_LV RX12 368 12 mX12_keepsTo := ⟨(pv_wg7 148 (by decide +kernel)), (pv_wg7 150 (by decide +kernel)), (RX12, TX12, 61), rfl, (pv_wp 82 (q := (yX12_keepsTo, 61)) (by decide +kernel))⟩
theorem lv_L_167_12 : pv_LV RL 167 12 mX12_lot := ⟨(pv_wg7 152 (by decide +kernel)), (pv_wg7 153 (by decide +kernel)), (RX12, TX12, 61), rfl, (pv_wg7 154 (by decide +kernel))⟩
theorem lv_X12_374_12 : pv_LV RX12 374 12 mX12_counts := ⟨(pv_wg7 156 (by decide +kernel)), (pv_wg7 158 (by decide +kernel)), (RX12, TX12, 61), rfl, (pv_wp 83 (q := (yX12_counts, 61)) (by decide +kernel))⟩
theorem lv_L_172_12 : pv_LV RL 172 12 mX12_bag := ⟨(pv_wg7 160 (by decide +kernel)), (pv_wg7 161 (by decide +kernel)), (RX12, TX12, 61), rfl, (pv_wg7 162 (by decide +kernel))⟩
theorem lv_X12_383_12 : pv_LV RX12 383 12 mX12_tells := ⟨(pv_wg7 164 (by decide +kernel)), (pv_wg7 166 (by decide +kernel)), (RX12, TX12, 61), rfl, (pv_wp 84 (q := (yX12_tells, 61)) (by decide +kernel))⟩
theorem lv_L_176_12 : pv_LV RL 176 12 mX12_frees := ⟨(pv_wg7 168 (by decide +kernel)), (pv_wg7 169 (by decide +kernel)), (RX12, TX12, 61), rfl, (pv_wg7 170 (by decide +kernel))⟩
theorem lv_X12_386_12 : pv_LV RX12 386 12 mX12_stepped := ⟨(pv_wg7 172 (by decide +kernel)), (pv_wg7 174 (by decide +kernel)), (RX12, TX12, 61), rfl, (pv_wp 85 (q := (yX12_stepped, 61)) (by decide +kernel))⟩
theorem lv_L_180_12 : pv_LV RL 180 12 mX12_draws := ⟨(pv_wg7 176 (by decide +kernel)), (pv_wg7 177 (by decide +kernel)), (RX12, TX12, 61), rfl, (pv_wg7 178 (by decide +kernel))⟩
theorem lv_X12_390_12 : pv_LV RX12 390 12 mX12_draw := ⟨(pv_wg7 180 (by decide +kernel)), (pv_wg7 182 (by decide +kernel)), (RX12, TX12, 61), rfl, (pv_wp 86 (q := (yX12_draw, 61)) (by decide +kernel))⟩
theorem lv_L_184_12 : pv_LV RL 184 12 mX12_seed := ⟨(pv_wg7 185 (by decide +kernel)), (pv_wg7 186 (by decide +kernel)), (RX12, TX12, 61), rfl, (pv_wg7 187 (by decide +kernel))⟩
theorem lv_L_188_12 : pv_LV RL 188 12 mX12_act := ⟨(pv_wg7 189 (by decide +kernel)), (pv_wg7 190 (by decide +kernel)), (RX12, TX12, 61), rfl, (pv_wg7 191 (by decide +kernel))⟩
theorem lv_X12_399_12 : pv_LV RX12 399 12 mX12_calling := ⟨(pv_wg7 193 (by decide +kernel)), (pv_wg7 195 (by decide +kernel)), (RX12, TX12, 61), rfl, (pv_wp 87 (q := (yX12_calling, 61)) (by decide +kernel))⟩
theorem lv_X12_396_12 : pv_LV RX12 396 12 mX12_body := ⟨(pv_wg7 197 (by decide +kernel)), (pv_wg7 199 (by decide +kernel)), (RX12, TX12, 61), rfl, (pv_wp 88 (q := (yX12_body, 61)) (by decide +kernel))⟩
theorem lv_X12_402_12 : pv_LV RX12 402 12 mX12_stepping := ⟨(pv_wg7 201 (by decide +kernel)), (pv_wg7 203 (by decide +kernel)), (RX12, TX12, 61), rfl, (pv_wp 89 (q := (yX12_stepping, 61)) (by decide +kernel))⟩
theorem lv_X12_405_12 : pv_LV RX12 405 12 mX12_knotting := ⟨(pv_wg7 205 (by decide +kernel)), (pv_wg7 207 (by decide +kernel)), (RX12, TX12, 61), rfl, (pv_wp 90 (q := (yX12_knotting, 61)) (by decide +kernel))⟩
theorem lv_L_192_12 : pv_LV RL 192 12 mX12_trace := ⟨(pv_wg7 209 (by decide +kernel)), (pv_wg7 210 (by decide +kernel)), (RX12, TX12, 61), rfl, (pv_wg7 211 (by decide +kernel))⟩
theorem lv_L_196_12 : pv_LV RL 196 12 mX12_image := ⟨(pv_wg7 213 (by decide +kernel)), (pv_wg7 214 (by decide +kernel)), (RX12, TX12, 61), rfl, (pv_wg7 215 (by decide +kernel))⟩
theorem lv_L_200_12 : pv_LV RL 200 12 mX12_restore := ⟨(pv_wg7 217 (by decide +kernel)), (pv_wg7 218 (by decide +kernel)), (RX12, TX12, 61), rfl, (pv_wg7 219 (by decide +kernel))⟩
theorem lv_L_204_12 : pv_LV RL 204 12 mX12_status := ⟨(pv_wg7 221 (by decide +kernel)), (pv_wg7 222 (by decide +kernel)), (RX12, TX12, 61), rfl, (pv_wg7 223 (by decide +kernel))⟩
