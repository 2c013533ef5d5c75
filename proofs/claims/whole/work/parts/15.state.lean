/-! where the cells are: 16 the class, 61 the reference; from 90 on the figures -/
def pv_shl : List pv_Sh := [.inr 11, .inl (.object "TwoRopes$Shelf", 8), .inl (.object "TwoRopes$Dance", 8), .inl (.int, 8), .inl (.int, 21), .inr 4, .inl (.int, 4), .inr 4, .inl (.int, 4), .inr 4, .inl (.int, 4), .inr 4, .inl (.int, 4), .inr 7, .inl (.long, 40), .inl (.long, 40), .inl (.int, 3), .inl (.int, 9), .inl (.int, 9), .inr 2, .inl (.long, 320), .inl (.long, 320), .inl (.int, 320), .inl (.int, 1024), .inr 2, .inl (.long, 320), .inl (.long, 320), .inl (.int, 320), .inl (.int, 1024), .inr 8, .inl (.long, 160), .inr 8, .inl (.long, 160), .inr 8, .inl (.long, 160), .inr 8, .inl (.long, 160), .inr 8, .inl (.long, 160), .inr 8, .inl (.long, 160), .inr 8, .inl (.long, 160), .inr 8, .inl (.long, 160), .inr 12, .inl (.int, 8), .inl (.int, 8), .inl (.int, 8), .inl (.int, 8), .inl (.int, 4), .inl (.int, 8), .inl (.int, 8), .inl (.int, 8), .inl (.int, 8), .inl (.long, 1280), .inl (.long, 160), .inl (.int, 4), .inl (.int, 21), .inl (.int, 3), .inl (.int, 40), .inl (.int, 40), .inl (.long, 2), .inl (.long, 2), .inl (.int, 4), .inl (.int, 10), .inl (.int, 10), .inl (.long, 128), .inl (.long, 128), .inl (.long, 4), .inl (.long, 4), .inl (.long, 40), .inl (.long, 40), .inl (.int, 20)]
def pv_rfl : List (Nat × Nat × Nat) := [(16, 0, 17), (16, 1, 18), (16, 2, 19), (16, 3, 20), (16, 4, 21), (16, 5, 23), (16, 6, 25), (16, 7, 27), (16, 8, 29), (16, 9, 35), (16, 10, 40), (21, 0, 22), (23, 0, 24), (25, 0, 26), (27, 0, 28), (29, 0, 30), (29, 1, 31), (29, 2, 32), (29, 3, 33), (29, 4, 34), (35, 0, 36), (35, 1, 37), (35, 2, 38), (35, 3, 39), (40, 0, 41), (40, 1, 42), (40, 2, 43), (40, 3, 44), (45, 0, 46), (17, 0, 45), (47, 0, 48), (17, 1, 47), (49, 0, 50), (17, 2, 49), (51, 0, 52), (17, 3, 51), (53, 0, 54), (17, 4, 53), (55, 0, 56), (17, 5, 55), (57, 0, 58), (17, 6, 57), (59, 0, 60), (17, 7, 59), (61, 7, 62), (61, 8, 63), (61, 9, 64), (61, 10, 65), (61, 11, 66), (61, 12, 67), (61, 13, 68), (61, 14, 69), (61, 15, 70), (61, 16, 71), (61, 17, 72), (61, 20, 73), (61, 21, 74), (61, 22, 75), (61, 28, 76), (61, 29, 77), (61, 30, 78), (61, 31, 79), (61, 34, 80), (61, 37, 81), (61, 38, 82), (61, 49, 83), (61, 50, 84), (61, 52, 85), (61, 53, 86), (61, 54, 87), (61, 55, 88), (61, 58, 89)]
def sh_ok (t : pv_T) : Prop := 90 ≤ t.2 ∧ ∀ k x, pv_shl[k]? = some x → t.1 (k + 16) = some x
def rf_ok (Rf : pv_R) : Prop := ∀ q ∈ pv_rfl, Rf q.1 q.2.1 = some q.2.2
theorem sx_16 {t : pv_T} (h : sh_ok t) : t.1 16 = some (.inr 11) := h.2 0 _ rfl
theorem sx_17 {t : pv_T} (h : sh_ok t) : t.1 17 = some (.inl (.object "TwoRopes$Shelf", 8)) := h.2 1 _ rfl
theorem sx_18 {t : pv_T} (h : sh_ok t) : t.1 18 = some (.inl (.object "TwoRopes$Dance", 8)) := h.2 2 _ rfl
theorem sx_19 {t : pv_T} (h : sh_ok t) : t.1 19 = some (.inl (.int, 8)) := h.2 3 _ rfl
theorem sx_20 {t : pv_T} (h : sh_ok t) : t.1 20 = some (.inl (.int, 21)) := h.2 4 _ rfl
theorem sx_21 {t : pv_T} (h : sh_ok t) : t.1 21 = some (.inr 4) := h.2 5 _ rfl
theorem sx_22 {t : pv_T} (h : sh_ok t) : t.1 22 = some (.inl (.int, 4)) := h.2 6 _ rfl
theorem sx_23 {t : pv_T} (h : sh_ok t) : t.1 23 = some (.inr 4) := h.2 7 _ rfl
theorem sx_24 {t : pv_T} (h : sh_ok t) : t.1 24 = some (.inl (.int, 4)) := h.2 8 _ rfl
theorem sx_25 {t : pv_T} (h : sh_ok t) : t.1 25 = some (.inr 4) := h.2 9 _ rfl
theorem sx_26 {t : pv_T} (h : sh_ok t) : t.1 26 = some (.inl (.int, 4)) := h.2 10 _ rfl
theorem sx_27 {t : pv_T} (h : sh_ok t) : t.1 27 = some (.inr 4) := h.2 11 _ rfl
theorem sx_28 {t : pv_T} (h : sh_ok t) : t.1 28 = some (.inl (.int, 4)) := h.2 12 _ rfl
theorem sx_29 {t : pv_T} (h : sh_ok t) : t.1 29 = some (.inr 7) := h.2 13 _ rfl
theorem sx_30 {t : pv_T} (h : sh_ok t) : t.1 30 = some (.inl (.long, 40)) := h.2 14 _ rfl
theorem sx_31 {t : pv_T} (h : sh_ok t) : t.1 31 = some (.inl (.long, 40)) := h.2 15 _ rfl
theorem sx_32 {t : pv_T} (h : sh_ok t) : t.1 32 = some (.inl (.int, 3)) := h.2 16 _ rfl
theorem sx_33 {t : pv_T} (h : sh_ok t) : t.1 33 = some (.inl (.int, 9)) := h.2 17 _ rfl
theorem sx_34 {t : pv_T} (h : sh_ok t) : t.1 34 = some (.inl (.int, 9)) := h.2 18 _ rfl
theorem sx_35 {t : pv_T} (h : sh_ok t) : t.1 35 = some (.inr 2) := h.2 19 _ rfl
theorem sx_36 {t : pv_T} (h : sh_ok t) : t.1 36 = some (.inl (.long, 320)) := h.2 20 _ rfl
theorem sx_37 {t : pv_T} (h : sh_ok t) : t.1 37 = some (.inl (.long, 320)) := h.2 21 _ rfl
theorem sx_38 {t : pv_T} (h : sh_ok t) : t.1 38 = some (.inl (.int, 320)) := h.2 22 _ rfl
theorem sx_39 {t : pv_T} (h : sh_ok t) : t.1 39 = some (.inl (.int, 1024)) := h.2 23 _ rfl
theorem sx_40 {t : pv_T} (h : sh_ok t) : t.1 40 = some (.inr 2) := h.2 24 _ rfl
theorem sx_41 {t : pv_T} (h : sh_ok t) : t.1 41 = some (.inl (.long, 320)) := h.2 25 _ rfl
theorem sx_42 {t : pv_T} (h : sh_ok t) : t.1 42 = some (.inl (.long, 320)) := h.2 26 _ rfl
theorem sx_43 {t : pv_T} (h : sh_ok t) : t.1 43 = some (.inl (.int, 320)) := h.2 27 _ rfl
theorem sx_44 {t : pv_T} (h : sh_ok t) : t.1 44 = some (.inl (.int, 1024)) := h.2 28 _ rfl
theorem sx_45 {t : pv_T} (h : sh_ok t) : t.1 45 = some (.inr 8) := h.2 29 _ rfl
theorem sx_46 {t : pv_T} (h : sh_ok t) : t.1 46 = some (.inl (.long, 160)) := h.2 30 _ rfl
theorem sx_47 {t : pv_T} (h : sh_ok t) : t.1 47 = some (.inr 8) := h.2 31 _ rfl
theorem sx_48 {t : pv_T} (h : sh_ok t) : t.1 48 = some (.inl (.long, 160)) := h.2 32 _ rfl
theorem sx_49 {t : pv_T} (h : sh_ok t) : t.1 49 = some (.inr 8) := h.2 33 _ rfl
theorem sx_50 {t : pv_T} (h : sh_ok t) : t.1 50 = some (.inl (.long, 160)) := h.2 34 _ rfl
theorem sx_51 {t : pv_T} (h : sh_ok t) : t.1 51 = some (.inr 8) := h.2 35 _ rfl
theorem sx_52 {t : pv_T} (h : sh_ok t) : t.1 52 = some (.inl (.long, 160)) := h.2 36 _ rfl
theorem sx_53 {t : pv_T} (h : sh_ok t) : t.1 53 = some (.inr 8) := h.2 37 _ rfl
theorem sx_54 {t : pv_T} (h : sh_ok t) : t.1 54 = some (.inl (.long, 160)) := h.2 38 _ rfl
theorem sx_55 {t : pv_T} (h : sh_ok t) : t.1 55 = some (.inr 8) := h.2 39 _ rfl
theorem sx_56 {t : pv_T} (h : sh_ok t) : t.1 56 = some (.inl (.long, 160)) := h.2 40 _ rfl
theorem sx_57 {t : pv_T} (h : sh_ok t) : t.1 57 = some (.inr 8) := h.2 41 _ rfl
theorem sx_58 {t : pv_T} (h : sh_ok t) : t.1 58 = some (.inl (.long, 160)) := h.2 42 _ rfl
theorem sx_59 {t : pv_T} (h : sh_ok t) : t.1 59 = some (.inr 8) := h.2 43 _ rfl
theorem sx_60 {t : pv_T} (h : sh_ok t) : t.1 60 = some (.inl (.long, 160)) := h.2 44 _ rfl
theorem sx_61 {t : pv_T} (h : sh_ok t) : t.1 61 = some (.inr 12) := h.2 45 _ rfl
theorem sx_62 {t : pv_T} (h : sh_ok t) : t.1 62 = some (.inl (.int, 8)) := h.2 46 _ rfl
theorem sx_63 {t : pv_T} (h : sh_ok t) : t.1 63 = some (.inl (.int, 8)) := h.2 47 _ rfl
theorem sx_64 {t : pv_T} (h : sh_ok t) : t.1 64 = some (.inl (.int, 8)) := h.2 48 _ rfl
theorem sx_65 {t : pv_T} (h : sh_ok t) : t.1 65 = some (.inl (.int, 8)) := h.2 49 _ rfl
theorem sx_66 {t : pv_T} (h : sh_ok t) : t.1 66 = some (.inl (.int, 4)) := h.2 50 _ rfl
theorem sx_67 {t : pv_T} (h : sh_ok t) : t.1 67 = some (.inl (.int, 8)) := h.2 51 _ rfl
theorem sx_68 {t : pv_T} (h : sh_ok t) : t.1 68 = some (.inl (.int, 8)) := h.2 52 _ rfl
theorem sx_69 {t : pv_T} (h : sh_ok t) : t.1 69 = some (.inl (.int, 8)) := h.2 53 _ rfl
theorem sx_70 {t : pv_T} (h : sh_ok t) : t.1 70 = some (.inl (.int, 8)) := h.2 54 _ rfl
theorem sx_71 {t : pv_T} (h : sh_ok t) : t.1 71 = some (.inl (.long, 1280)) := h.2 55 _ rfl
theorem sx_72 {t : pv_T} (h : sh_ok t) : t.1 72 = some (.inl (.long, 160)) := h.2 56 _ rfl
theorem sx_73 {t : pv_T} (h : sh_ok t) : t.1 73 = some (.inl (.int, 4)) := h.2 57 _ rfl
theorem sx_74 {t : pv_T} (h : sh_ok t) : t.1 74 = some (.inl (.int, 21)) := h.2 58 _ rfl
theorem sx_75 {t : pv_T} (h : sh_ok t) : t.1 75 = some (.inl (.int, 3)) := h.2 59 _ rfl
theorem sx_76 {t : pv_T} (h : sh_ok t) : t.1 76 = some (.inl (.int, 40)) := h.2 60 _ rfl
theorem sx_77 {t : pv_T} (h : sh_ok t) : t.1 77 = some (.inl (.int, 40)) := h.2 61 _ rfl
theorem sx_78 {t : pv_T} (h : sh_ok t) : t.1 78 = some (.inl (.long, 2)) := h.2 62 _ rfl
theorem sx_79 {t : pv_T} (h : sh_ok t) : t.1 79 = some (.inl (.long, 2)) := h.2 63 _ rfl
theorem sx_80 {t : pv_T} (h : sh_ok t) : t.1 80 = some (.inl (.int, 4)) := h.2 64 _ rfl
theorem sx_81 {t : pv_T} (h : sh_ok t) : t.1 81 = some (.inl (.int, 10)) := h.2 65 _ rfl
theorem sx_82 {t : pv_T} (h : sh_ok t) : t.1 82 = some (.inl (.int, 10)) := h.2 66 _ rfl
theorem sx_83 {t : pv_T} (h : sh_ok t) : t.1 83 = some (.inl (.long, 128)) := h.2 67 _ rfl
theorem sx_84 {t : pv_T} (h : sh_ok t) : t.1 84 = some (.inl (.long, 128)) := h.2 68 _ rfl
theorem sx_85 {t : pv_T} (h : sh_ok t) : t.1 85 = some (.inl (.long, 4)) := h.2 69 _ rfl
theorem sx_86 {t : pv_T} (h : sh_ok t) : t.1 86 = some (.inl (.long, 4)) := h.2 70 _ rfl
theorem sx_87 {t : pv_T} (h : sh_ok t) : t.1 87 = some (.inl (.long, 40)) := h.2 71 _ rfl
theorem sx_88 {t : pv_T} (h : sh_ok t) : t.1 88 = some (.inl (.long, 40)) := h.2 72 _ rfl
theorem sx_89 {t : pv_T} (h : sh_ok t) : t.1 89 = some (.inl (.int, 20)) := h.2 73 _ rfl
theorem rx_16_0 {Rf : pv_R} (h : rf_ok Rf) : Rf 16 0 = some 17 := h _ (List.mem_of_getElem? (i := 0) rfl)
theorem rx_16_1 {Rf : pv_R} (h : rf_ok Rf) : Rf 16 1 = some 18 := h _ (List.mem_of_getElem? (i := 1) rfl)
theorem rx_16_2 {Rf : pv_R} (h : rf_ok Rf) : Rf 16 2 = some 19 := h _ (List.mem_of_getElem? (i := 2) rfl)
theorem rx_16_3 {Rf : pv_R} (h : rf_ok Rf) : Rf 16 3 = some 20 := h _ (List.mem_of_getElem? (i := 3) rfl)
theorem rx_16_4 {Rf : pv_R} (h : rf_ok Rf) : Rf 16 4 = some 21 := h _ (List.mem_of_getElem? (i := 4) rfl)
theorem rx_16_5 {Rf : pv_R} (h : rf_ok Rf) : Rf 16 5 = some 23 := h _ (List.mem_of_getElem? (i := 5) rfl)
theorem rx_16_6 {Rf : pv_R} (h : rf_ok Rf) : Rf 16 6 = some 25 := h _ (List.mem_of_getElem? (i := 6) rfl)
theorem rx_16_7 {Rf : pv_R} (h : rf_ok Rf) : Rf 16 7 = some 27 := h _ (List.mem_of_getElem? (i := 7) rfl)
theorem rx_16_8 {Rf : pv_R} (h : rf_ok Rf) : Rf 16 8 = some 29 := h _ (List.mem_of_getElem? (i := 8) rfl)
theorem rx_16_9 {Rf : pv_R} (h : rf_ok Rf) : Rf 16 9 = some 35 := h _ (List.mem_of_getElem? (i := 9) rfl)
theorem rx_16_10 {Rf : pv_R} (h : rf_ok Rf) : Rf 16 10 = some 40 := h _ (List.mem_of_getElem? (i := 10) rfl)
theorem rx_21_0 {Rf : pv_R} (h : rf_ok Rf) : Rf 21 0 = some 22 := h _ (List.mem_of_getElem? (i := 11) rfl)
theorem rx_23_0 {Rf : pv_R} (h : rf_ok Rf) : Rf 23 0 = some 24 := h _ (List.mem_of_getElem? (i := 12) rfl)
theorem rx_25_0 {Rf : pv_R} (h : rf_ok Rf) : Rf 25 0 = some 26 := h _ (List.mem_of_getElem? (i := 13) rfl)
theorem rx_27_0 {Rf : pv_R} (h : rf_ok Rf) : Rf 27 0 = some 28 := h _ (List.mem_of_getElem? (i := 14) rfl)
theorem rx_29_0 {Rf : pv_R} (h : rf_ok Rf) : Rf 29 0 = some 30 := h _ (List.mem_of_getElem? (i := 15) rfl)
theorem rx_29_1 {Rf : pv_R} (h : rf_ok Rf) : Rf 29 1 = some 31 := h _ (List.mem_of_getElem? (i := 16) rfl)
theorem rx_29_2 {Rf : pv_R} (h : rf_ok Rf) : Rf 29 2 = some 32 := h _ (List.mem_of_getElem? (i := 17) rfl)
theorem rx_29_3 {Rf : pv_R} (h : rf_ok Rf) : Rf 29 3 = some 33 := h _ (List.mem_of_getElem? (i := 18) rfl)
theorem rx_29_4 {Rf : pv_R} (h : rf_ok Rf) : Rf 29 4 = some 34 := h _ (List.mem_of_getElem? (i := 19) rfl)
theorem rx_35_0 {Rf : pv_R} (h : rf_ok Rf) : Rf 35 0 = some 36 := h _ (List.mem_of_getElem? (i := 20) rfl)
theorem rx_35_1 {Rf : pv_R} (h : rf_ok Rf) : Rf 35 1 = some 37 := h _ (List.mem_of_getElem? (i := 21) rfl)
theorem rx_35_2 {Rf : pv_R} (h : rf_ok Rf) : Rf 35 2 = some 38 := h _ (List.mem_of_getElem? (i := 22) rfl)
theorem rx_35_3 {Rf : pv_R} (h : rf_ok Rf) : Rf 35 3 = some 39 := h _ (List.mem_of_getElem? (i := 23) rfl)
theorem rx_40_0 {Rf : pv_R} (h : rf_ok Rf) : Rf 40 0 = some 41 := h _ (List.mem_of_getElem? (i := 24) rfl)
theorem rx_40_1 {Rf : pv_R} (h : rf_ok Rf) : Rf 40 1 = some 42 := h _ (List.mem_of_getElem? (i := 25) rfl)
theorem rx_40_2 {Rf : pv_R} (h : rf_ok Rf) : Rf 40 2 = some 43 := h _ (List.mem_of_getElem? (i := 26) rfl)
theorem rx_40_3 {Rf : pv_R} (h : rf_ok Rf) : Rf 40 3 = some 44 := h _ (List.mem_of_getElem? (i := 27) rfl)
theorem rx_45_0 {Rf : pv_R} (h : rf_ok Rf) : Rf 45 0 = some 46 := h _ (List.mem_of_getElem? (i := 28) rfl)
theorem rx_17_0 {Rf : pv_R} (h : rf_ok Rf) : Rf 17 0 = some 45 := h _ (List.mem_of_getElem? (i := 29) rfl)
theorem rx_47_0 {Rf : pv_R} (h : rf_ok Rf) : Rf 47 0 = some 48 := h _ (List.mem_of_getElem? (i := 30) rfl)
theorem rx_17_1 {Rf : pv_R} (h : rf_ok Rf) : Rf 17 1 = some 47 := h _ (List.mem_of_getElem? (i := 31) rfl)
theorem rx_49_0 {Rf : pv_R} (h : rf_ok Rf) : Rf 49 0 = some 50 := h _ (List.mem_of_getElem? (i := 32) rfl)
theorem rx_17_2 {Rf : pv_R} (h : rf_ok Rf) : Rf 17 2 = some 49 := h _ (List.mem_of_getElem? (i := 33) rfl)
theorem rx_51_0 {Rf : pv_R} (h : rf_ok Rf) : Rf 51 0 = some 52 := h _ (List.mem_of_getElem? (i := 34) rfl)
theorem rx_17_3 {Rf : pv_R} (h : rf_ok Rf) : Rf 17 3 = some 51 := h _ (List.mem_of_getElem? (i := 35) rfl)
theorem rx_53_0 {Rf : pv_R} (h : rf_ok Rf) : Rf 53 0 = some 54 := h _ (List.mem_of_getElem? (i := 36) rfl)
theorem rx_17_4 {Rf : pv_R} (h : rf_ok Rf) : Rf 17 4 = some 53 := h _ (List.mem_of_getElem? (i := 37) rfl)
theorem rx_55_0 {Rf : pv_R} (h : rf_ok Rf) : Rf 55 0 = some 56 := h _ (List.mem_of_getElem? (i := 38) rfl)
theorem rx_17_5 {Rf : pv_R} (h : rf_ok Rf) : Rf 17 5 = some 55 := h _ (List.mem_of_getElem? (i := 39) rfl)
theorem rx_57_0 {Rf : pv_R} (h : rf_ok Rf) : Rf 57 0 = some 58 := h _ (List.mem_of_getElem? (i := 40) rfl)
theorem rx_17_6 {Rf : pv_R} (h : rf_ok Rf) : Rf 17 6 = some 57 := h _ (List.mem_of_getElem? (i := 41) rfl)
theorem rx_59_0 {Rf : pv_R} (h : rf_ok Rf) : Rf 59 0 = some 60 := h _ (List.mem_of_getElem? (i := 42) rfl)
theorem rx_17_7 {Rf : pv_R} (h : rf_ok Rf) : Rf 17 7 = some 59 := h _ (List.mem_of_getElem? (i := 43) rfl)
theorem rx_61_7 {Rf : pv_R} (h : rf_ok Rf) : Rf 61 7 = some 62 := h _ (List.mem_of_getElem? (i := 44) rfl)
theorem rx_61_8 {Rf : pv_R} (h : rf_ok Rf) : Rf 61 8 = some 63 := h _ (List.mem_of_getElem? (i := 45) rfl)
theorem rx_61_9 {Rf : pv_R} (h : rf_ok Rf) : Rf 61 9 = some 64 := h _ (List.mem_of_getElem? (i := 46) rfl)
theorem rx_61_10 {Rf : pv_R} (h : rf_ok Rf) : Rf 61 10 = some 65 := h _ (List.mem_of_getElem? (i := 47) rfl)
theorem rx_61_11 {Rf : pv_R} (h : rf_ok Rf) : Rf 61 11 = some 66 := h _ (List.mem_of_getElem? (i := 48) rfl)
theorem rx_61_12 {Rf : pv_R} (h : rf_ok Rf) : Rf 61 12 = some 67 := h _ (List.mem_of_getElem? (i := 49) rfl)
theorem rx_61_13 {Rf : pv_R} (h : rf_ok Rf) : Rf 61 13 = some 68 := h _ (List.mem_of_getElem? (i := 50) rfl)
theorem rx_61_14 {Rf : pv_R} (h : rf_ok Rf) : Rf 61 14 = some 69 := h _ (List.mem_of_getElem? (i := 51) rfl)
theorem rx_61_15 {Rf : pv_R} (h : rf_ok Rf) : Rf 61 15 = some 70 := h _ (List.mem_of_getElem? (i := 52) rfl)
theorem rx_61_16 {Rf : pv_R} (h : rf_ok Rf) : Rf 61 16 = some 71 := h _ (List.mem_of_getElem? (i := 53) rfl)
theorem rx_61_17 {Rf : pv_R} (h : rf_ok Rf) : Rf 61 17 = some 72 := h _ (List.mem_of_getElem? (i := 54) rfl)
theorem rx_61_20 {Rf : pv_R} (h : rf_ok Rf) : Rf 61 20 = some 73 := h _ (List.mem_of_getElem? (i := 55) rfl)
theorem rx_61_21 {Rf : pv_R} (h : rf_ok Rf) : Rf 61 21 = some 74 := h _ (List.mem_of_getElem? (i := 56) rfl)
theorem rx_61_22 {Rf : pv_R} (h : rf_ok Rf) : Rf 61 22 = some 75 := h _ (List.mem_of_getElem? (i := 57) rfl)
theorem rx_61_28 {Rf : pv_R} (h : rf_ok Rf) : Rf 61 28 = some 76 := h _ (List.mem_of_getElem? (i := 58) rfl)
theorem rx_61_29 {Rf : pv_R} (h : rf_ok Rf) : Rf 61 29 = some 77 := h _ (List.mem_of_getElem? (i := 59) rfl)
theorem rx_61_30 {Rf : pv_R} (h : rf_ok Rf) : Rf 61 30 = some 78 := h _ (List.mem_of_getElem? (i := 60) rfl)
theorem rx_61_31 {Rf : pv_R} (h : rf_ok Rf) : Rf 61 31 = some 79 := h _ (List.mem_of_getElem? (i := 61) rfl)
theorem rx_61_34 {Rf : pv_R} (h : rf_ok Rf) : Rf 61 34 = some 80 := h _ (List.mem_of_getElem? (i := 62) rfl)
theorem rx_61_37 {Rf : pv_R} (h : rf_ok Rf) : Rf 61 37 = some 81 := h _ (List.mem_of_getElem? (i := 63) rfl)
theorem rx_61_38 {Rf : pv_R} (h : rf_ok Rf) : Rf 61 38 = some 82 := h _ (List.mem_of_getElem? (i := 64) rfl)
theorem rx_61_49 {Rf : pv_R} (h : rf_ok Rf) : Rf 61 49 = some 83 := h _ (List.mem_of_getElem? (i := 65) rfl)
theorem rx_61_50 {Rf : pv_R} (h : rf_ok Rf) : Rf 61 50 = some 84 := h _ (List.mem_of_getElem? (i := 66) rfl)
theorem rx_61_52 {Rf : pv_R} (h : rf_ok Rf) : Rf 61 52 = some 85 := h _ (List.mem_of_getElem? (i := 67) rfl)
theorem rx_61_53 {Rf : pv_R} (h : rf_ok Rf) : Rf 61 53 = some 86 := h _ (List.mem_of_getElem? (i := 68) rfl)
theorem rx_61_54 {Rf : pv_R} (h : rf_ok Rf) : Rf 61 54 = some 87 := h _ (List.mem_of_getElem? (i := 69) rfl)
theorem rx_61_55 {Rf : pv_R} (h : rf_ok Rf) : Rf 61 55 = some 88 := h _ (List.mem_of_getElem? (i := 70) rfl)
theorem rx_61_58 {Rf : pv_R} (h : rf_ok Rf) : Rf 61 58 = some 89 := h _ (List.mem_of_getElem? (i := 71) rfl)
