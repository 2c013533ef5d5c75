/-! contracts whose answer and memory are determined -/
def pv_is (v : Option Value) (t : pv_T) (I : pv_I) (L : pv_L) (Rf : pv_R) : pv_Q := fun v1 t1 I1 L1 R1 => v1 = v ∧ t1 = t ∧ I1 = I ∧ L1 = L ∧ R1 = Rf
def pv_b (b : Bool) : Int32 := if b then 1 else 0
theorem pv_b_nar (b : Bool) : narrow .boolean (.int (pv_b b)) = .int (pv_b b) := by cases b <;> rfl
theorem pv_b_fit (b : Bool) : fits .boolean (.int (pv_b b)) = true := by cases b <;> rfl
theorem pv_b_0 (b : Bool) : pv_b b = 0 ↔ b = false := by cases b <;> decide
theorem pv_b_n0 (b : Bool) : ¬ pv_b b = 0 ↔ b = true := by cases b <;> decide
theorem pv_b_1 (b : Bool) : pv_b b = 1 ↔ b = true := by cases b <;> decide
theorem pv_in_of {i : Int32} {n : Nat} (h0 : 0 ≤ i.toInt) (h1 : i.toInt < n) : vp_in i n := by
  rintro (h | h)
  · rw [Int32.lt_iff_toInt_lt, Int32.toInt_zero] at h; omega
  · have : i.toNatClampNeg = i.toInt.toNat := rfl
    omega
theorem pv_in_lt {i : Int32} {n : Nat} (h : vp_in i n) : 0 ≤ i.toInt ∧ i.toInt < n ∧ i.toNatClampNeg < n ∧ (i.toNatClampNeg : Int) = i.toInt := by
  have e : i.toNatClampNeg = i.toInt.toNat := rfl
  have h1 : ¬ i.toInt < 0 := fun q => h (Or.inl (by rw [Int32.lt_iff_toInt_lt, Int32.toInt_zero]; exact q))
  have h2 : ¬ n ≤ i.toNatClampNeg := fun q => h (Or.inr q)
  omega
section PVCV
variable {G : pv_G} {M M1 : pv_Mth} {d mc ms mc1 ms1 bc bs pc n idx : Nat} {Q Q1 : pv_Q} {ls st st0 As : List Value} {t t1 : pv_T} {I I1 : pv_I} {L L1 : pv_L} {Rf R1 : pv_R} {v : Value}
theorem pv_callV1 {a ci : Nat} (hd : decode M.2.1 pc = .ok (.invokevirtual idx, 3)) (hg : pv_MG M1 n) (hlk : pv_LV M.1.cls idx ci M1) (h16 : 16 ≤ a) (hs : t.1 a = some (.inr ci)) (hdd : 1 ≤ d) (hm : pv_Mt G M1 (d - 1) 0 0 (.ref a :: As) t I L Rf (pv_is (some v) t1 I1 L1 R1)) (hn : As.length = n) (hst : st0 = As.reverse ++ .ref a :: st) (hW : (st.map fun v => v.category).sum ≤ 8)
    (k : pv_V G M d mc ms Q bc bs (pc + 3) ls (v :: st) t1 I1 L1 R1) : pv_V G M d mc ms Q bc bs pc ls st0 t I L Rf :=
  pv_callV (bc := bc) (bs := bs) hd hg hlk h16 hs (by omega) hm hn hst hW (fun _ _ _ _ _ hq => by obtain ⟨rfl, rfl, rfl, rfl, rfl⟩ := hq; exact k)
theorem pv_callV0 {a ci : Nat} (hd : decode M.2.1 pc = .ok (.invokevirtual idx, 3)) (hg : pv_MG M1 n) (hlk : pv_LV M.1.cls idx ci M1) (h16 : 16 ≤ a) (hs : t.1 a = some (.inr ci)) (hdd : 1 ≤ d) (hm : pv_Mt G M1 (d - 1) 0 0 (.ref a :: As) t I L Rf (pv_is none t1 I1 L1 R1)) (hn : As.length = n) (hst : st0 = As.reverse ++ .ref a :: st) (hW : (st.map fun v => v.category).sum ≤ 8)
    (k : pv_V G M d mc ms Q bc bs (pc + 3) ls st t1 I1 L1 R1) : pv_V G M d mc ms Q bc bs pc ls st0 t I L Rf :=
  pv_callV (bc := bc) (bs := bs) hd hg hlk h16 hs (by omega) hm hn hst hW (fun _ _ _ _ _ hq => by obtain ⟨rfl, rfl, rfl, rfl, rfl⟩ := hq; exact k)
theorem pv_callVq {a ci : Nat} (hd : decode M.2.1 pc = .ok (.invokevirtual idx, 3)) (hg : pv_MG M1 n) (hlk : pv_LV M.1.cls idx ci M1) (h16 : 16 ≤ a) (hs : t.1 a = some (.inr ci)) (hdd : 1 ≤ d) (hm : pv_Mt G M1 (d - 1) 0 0 (.ref a :: As) t I L Rf Q1) (hn : As.length = n) (hst : st0 = As.reverse ++ .ref a :: st) (hW : (st.map fun v => v.category).sum ≤ 8)
    (k : ∀ v t I L Rf, Q1 v t I L Rf → pv_V G M d mc ms Q bc bs (pc + 3) ls (v.toList ++ st) t I L Rf) : pv_V G M d mc ms Q bc bs pc ls st0 t I L Rf :=
  pv_callV (bc := bc) (bs := bs) hd hg hlk h16 hs (by omega) hm hn hst hW k
theorem pv_callU1 {a ci : Nat} {x : MethodName} (hd : decode M.2.1 pc = .ok (.invokevirtual idx, 3)) (hg : pv_MG M1 n) (hlk : pv_LU M.1.cls idx ci x M1) (h16 : 16 ≤ a) (hs : t.1 a = some (.inr ci)) (hdd : 1 ≤ d) (hm : pv_Mt G M1 (d - 1) 0 0 (.ref a :: As) t I L Rf (pv_is (some v) t1 I1 L1 R1)) (hn : As.length = n) (hst : st0 = As.reverse ++ .ref a :: st) (hW : (st.map fun v => v.category).sum ≤ 8)
    (k : pv_V G M d mc ms Q bc bs (pc + 3) ls (v :: st) t1 I1 L1 R1) : pv_V G M d mc ms Q bc bs pc ls st0 t I L Rf :=
  pv_callU (bc := bc) (bs := bs) hd hg hlk h16 hs (by omega) hm hn hst hW (fun _ _ _ _ _ hq => by obtain ⟨rfl, rfl, rfl, rfl, rfl⟩ := hq; exact k)
theorem pv_callU0 {a ci : Nat} {x : MethodName} (hd : decode M.2.1 pc = .ok (.invokevirtual idx, 3)) (hg : pv_MG M1 n) (hlk : pv_LU M.1.cls idx ci x M1) (h16 : 16 ≤ a) (hs : t.1 a = some (.inr ci)) (hdd : 1 ≤ d) (hm : pv_Mt G M1 (d - 1) 0 0 (.ref a :: As) t I L Rf (pv_is none t1 I1 L1 R1)) (hn : As.length = n) (hst : st0 = As.reverse ++ .ref a :: st) (hW : (st.map fun v => v.category).sum ≤ 8)
    (k : pv_V G M d mc ms Q bc bs (pc + 3) ls st t1 I1 L1 R1) : pv_V G M d mc ms Q bc bs pc ls st0 t I L Rf :=
  pv_callU (bc := bc) (bs := bs) hd hg hlk h16 hs (by omega) hm hn hst hW (fun _ _ _ _ _ hq => by obtain ⟨rfl, rfl, rfl, rfl, rfl⟩ := hq; exact k)
theorem pv_callUq {a ci : Nat} {x : MethodName} (hd : decode M.2.1 pc = .ok (.invokevirtual idx, 3)) (hg : pv_MG M1 n) (hlk : pv_LU M.1.cls idx ci x M1) (h16 : 16 ≤ a) (hs : t.1 a = some (.inr ci)) (hdd : 1 ≤ d) (hm : pv_Mt G M1 (d - 1) 0 0 (.ref a :: As) t I L Rf Q1) (hn : As.length = n) (hst : st0 = As.reverse ++ .ref a :: st) (hW : (st.map fun v => v.category).sum ≤ 8)
    (k : ∀ v t I L Rf, Q1 v t I L Rf → pv_V G M d mc ms Q bc bs (pc + 3) ls (v.toList ++ st) t I L Rf) : pv_V G M d mc ms Q bc bs pc ls st0 t I L Rf :=
  pv_callU (bc := bc) (bs := bs) hd hg hlk h16 hs (by omega) hm hn hst hW k
theorem pv_callS1  (hd : decode M.2.1 pc = .ok (.invokestatic idx, 3)) (hg : pv_MG M1 n) (hlk : pv_LS M.1.cls idx M1) (hdd : 1 ≤ d) (hm : pv_Mt G M1 (d - 1) 0 0 As t I L Rf (pv_is (some v) t1 I1 L1 R1)) (hn : As.length = n) (hst : st0 = As.reverse ++ st) (hW : (st.map fun v => v.category).sum ≤ 8)
    (k : pv_V G M d mc ms Q bc bs (pc + 3) ls (v :: st) t1 I1 L1 R1) : pv_V G M d mc ms Q bc bs pc ls st0 t I L Rf :=
  pv_callS (bc := bc) (bs := bs) hd hg hlk (by omega) hm hn hst hW (fun _ _ _ _ _ hq => by obtain ⟨rfl, rfl, rfl, rfl, rfl⟩ := hq; exact k)
theorem pv_callS0  (hd : decode M.2.1 pc = .ok (.invokestatic idx, 3)) (hg : pv_MG M1 n) (hlk : pv_LS M.1.cls idx M1) (hdd : 1 ≤ d) (hm : pv_Mt G M1 (d - 1) 0 0 As t I L Rf (pv_is none t1 I1 L1 R1)) (hn : As.length = n) (hst : st0 = As.reverse ++ st) (hW : (st.map fun v => v.category).sum ≤ 8)
    (k : pv_V G M d mc ms Q bc bs (pc + 3) ls st t1 I1 L1 R1) : pv_V G M d mc ms Q bc bs pc ls st0 t I L Rf :=
  pv_callS (bc := bc) (bs := bs) hd hg hlk (by omega) hm hn hst hW (fun _ _ _ _ _ hq => by obtain ⟨rfl, rfl, rfl, rfl, rfl⟩ := hq; exact k)
theorem pv_callSq  (hd : decode M.2.1 pc = .ok (.invokestatic idx, 3)) (hg : pv_MG M1 n) (hlk : pv_LS M.1.cls idx M1) (hdd : 1 ≤ d) (hm : pv_Mt G M1 (d - 1) 0 0 As t I L Rf Q1) (hn : As.length = n) (hst : st0 = As.reverse ++ st) (hW : (st.map fun v => v.category).sum ≤ 8)
    (k : ∀ v t I L Rf, Q1 v t I L Rf → pv_V G M d mc ms Q bc bs (pc + 3) ls (v.toList ++ st) t I L Rf) : pv_V G M d mc ms Q bc bs pc ls st0 t I L Rf :=
  pv_callS (bc := bc) (bs := bs) hd hg hlk (by omega) hm hn hst hW k
theorem pv_callSN1  (hd : decode M.2.1 pc = .ok (.invokestatic idx, 3)) (hg : pv_MG M1 n) (hlk : pv_LSN M.1.cls idx M1) (hdd : 1 ≤ d) (hm : pv_Mt G M1 (d - 1) 0 0 As t I L Rf (pv_is (some v) t1 I1 L1 R1)) (hn : As.length = n) (hst : st0 = As.reverse ++ st) (hW : (st.map fun v => v.category).sum ≤ 8)
    (k : pv_V G M d mc ms Q bc bs (pc + 3) ls (v :: st) t1 I1 L1 R1) : pv_V G M d mc ms Q bc bs pc ls st0 t I L Rf :=
  pv_callSN (bc := bc) (bs := bs) hd hg hlk (by omega) hm hn hst hW (fun _ _ _ _ _ hq => by obtain ⟨rfl, rfl, rfl, rfl, rfl⟩ := hq; exact k)
theorem pv_callSN0  (hd : decode M.2.1 pc = .ok (.invokestatic idx, 3)) (hg : pv_MG M1 n) (hlk : pv_LSN M.1.cls idx M1) (hdd : 1 ≤ d) (hm : pv_Mt G M1 (d - 1) 0 0 As t I L Rf (pv_is none t1 I1 L1 R1)) (hn : As.length = n) (hst : st0 = As.reverse ++ st) (hW : (st.map fun v => v.category).sum ≤ 8)
    (k : pv_V G M d mc ms Q bc bs (pc + 3) ls st t1 I1 L1 R1) : pv_V G M d mc ms Q bc bs pc ls st0 t I L Rf :=
  pv_callSN (bc := bc) (bs := bs) hd hg hlk (by omega) hm hn hst hW (fun _ _ _ _ _ hq => by obtain ⟨rfl, rfl, rfl, rfl, rfl⟩ := hq; exact k)
theorem pv_callSNq  (hd : decode M.2.1 pc = .ok (.invokestatic idx, 3)) (hg : pv_MG M1 n) (hlk : pv_LSN M.1.cls idx M1) (hdd : 1 ≤ d) (hm : pv_Mt G M1 (d - 1) 0 0 As t I L Rf Q1) (hn : As.length = n) (hst : st0 = As.reverse ++ st) (hW : (st.map fun v => v.category).sum ≤ 8)
    (k : ∀ v t I L Rf, Q1 v t I L Rf → pv_V G M d mc ms Q bc bs (pc + 3) ls (v.toList ++ st) t I L Rf) : pv_V G M d mc ms Q bc bs pc ls st0 t I L Rf :=
  pv_callSN (bc := bc) (bs := bs) hd hg hlk (by omega) hm hn hst hW k
theorem pv_callI1 {a : Nat} (hd : decode M.2.1 pc = .ok (.invokespecial idx, 3)) (hg : pv_MG M1 n) (hlk : pv_LI M.1.cls idx M1) (hdd : 1 ≤ d) (hm : pv_Mt G M1 (d - 1) 0 0 (.ref a :: As) t I L Rf (pv_is (some v) t1 I1 L1 R1)) (hn : As.length = n) (hst : st0 = As.reverse ++ .ref a :: st) (hW : (st.map fun v => v.category).sum ≤ 8)
    (k : pv_V G M d mc ms Q bc bs (pc + 3) ls (v :: st) t1 I1 L1 R1) : pv_V G M d mc ms Q bc bs pc ls st0 t I L Rf :=
  pv_callI (bc := bc) (bs := bs) hd hg hlk (by omega) hm hn hst hW (fun _ _ _ _ _ hq => by obtain ⟨rfl, rfl, rfl, rfl, rfl⟩ := hq; exact k)
theorem pv_callI0 {a : Nat} (hd : decode M.2.1 pc = .ok (.invokespecial idx, 3)) (hg : pv_MG M1 n) (hlk : pv_LI M.1.cls idx M1) (hdd : 1 ≤ d) (hm : pv_Mt G M1 (d - 1) 0 0 (.ref a :: As) t I L Rf (pv_is none t1 I1 L1 R1)) (hn : As.length = n) (hst : st0 = As.reverse ++ .ref a :: st) (hW : (st.map fun v => v.category).sum ≤ 8)
    (k : pv_V G M d mc ms Q bc bs (pc + 3) ls st t1 I1 L1 R1) : pv_V G M d mc ms Q bc bs pc ls st0 t I L Rf :=
  pv_callI (bc := bc) (bs := bs) hd hg hlk (by omega) hm hn hst hW (fun _ _ _ _ _ hq => by obtain ⟨rfl, rfl, rfl, rfl, rfl⟩ := hq; exact k)
theorem pv_callIq {a : Nat} (hd : decode M.2.1 pc = .ok (.invokespecial idx, 3)) (hg : pv_MG M1 n) (hlk : pv_LI M.1.cls idx M1) (hdd : 1 ≤ d) (hm : pv_Mt G M1 (d - 1) 0 0 (.ref a :: As) t I L Rf Q1) (hn : As.length = n) (hst : st0 = As.reverse ++ .ref a :: st) (hW : (st.map fun v => v.category).sum ≤ 8)
    (k : ∀ v t I L Rf, Q1 v t I L Rf → pv_V G M d mc ms Q bc bs (pc + 3) ls (v.toList ++ st) t I L Rf) : pv_V G M d mc ms Q bc bs pc ls st0 t I L Rf :=
  pv_callI (bc := bc) (bs := bs) hd hg hlk (by omega) hm hn hst hW k
theorem pv_callSU1 {a ci : Nat} (hd : decode M.2.1 pc = .ok (.invokespecial idx, 3)) (hg : pv_MG M1 n) (hlk : pv_LSU M.1.cls idx M1) (h16 : 16 ≤ a) (hs : t.1 a = some (.inr ci)) (hdd : 1 ≤ d) (hm : pv_Mt G M1 (d - 1) 0 0 (.ref a :: As) t I L Rf (pv_is (some v) t1 I1 L1 R1)) (hn : As.length = n) (hst : st0 = As.reverse ++ .ref a :: st) (hW : (st.map fun v => v.category).sum ≤ 8)
    (k : pv_V G M d mc ms Q bc bs (pc + 3) ls (v :: st) t1 I1 L1 R1) : pv_V G M d mc ms Q bc bs pc ls st0 t I L Rf :=
  pv_callSU (bc := bc) (bs := bs) hd hg hlk h16 hs (by omega) hm hn hst hW (fun _ _ _ _ _ hq => by obtain ⟨rfl, rfl, rfl, rfl, rfl⟩ := hq; exact k)
theorem pv_callSU0 {a ci : Nat} (hd : decode M.2.1 pc = .ok (.invokespecial idx, 3)) (hg : pv_MG M1 n) (hlk : pv_LSU M.1.cls idx M1) (h16 : 16 ≤ a) (hs : t.1 a = some (.inr ci)) (hdd : 1 ≤ d) (hm : pv_Mt G M1 (d - 1) 0 0 (.ref a :: As) t I L Rf (pv_is none t1 I1 L1 R1)) (hn : As.length = n) (hst : st0 = As.reverse ++ .ref a :: st) (hW : (st.map fun v => v.category).sum ≤ 8)
    (k : pv_V G M d mc ms Q bc bs (pc + 3) ls st t1 I1 L1 R1) : pv_V G M d mc ms Q bc bs pc ls st0 t I L Rf :=
  pv_callSU (bc := bc) (bs := bs) hd hg hlk h16 hs (by omega) hm hn hst hW (fun _ _ _ _ _ hq => by obtain ⟨rfl, rfl, rfl, rfl, rfl⟩ := hq; exact k)
theorem pv_callSUq {a ci : Nat} (hd : decode M.2.1 pc = .ok (.invokespecial idx, 3)) (hg : pv_MG M1 n) (hlk : pv_LSU M.1.cls idx M1) (h16 : 16 ≤ a) (hs : t.1 a = some (.inr ci)) (hdd : 1 ≤ d) (hm : pv_Mt G M1 (d - 1) 0 0 (.ref a :: As) t I L Rf Q1) (hn : As.length = n) (hst : st0 = As.reverse ++ .ref a :: st) (hW : (st.map fun v => v.category).sum ≤ 8)
    (k : ∀ v t I L Rf, Q1 v t I L Rf → pv_V G M d mc ms Q bc bs (pc + 3) ls (v.toList ++ st) t I L Rf) : pv_V G M d mc ms Q bc bs pc ls st0 t I L Rf :=
  pv_callSU (bc := bc) (bs := bs) hd hg hlk h16 hs (by omega) hm hn hst hW k
theorem pv_callSX1 {a ci : Nat} {x : MethodName} (hd : decode M.2.1 pc = .ok (.invokespecial idx, 3)) (hg : pv_MG M1 n) (hlk : pv_LSX M.1.cls idx x M1) (h16 : 16 ≤ a) (hs : t.1 a = some (.inr ci)) (hdd : 1 ≤ d) (hm : pv_Mt G M1 (d - 1) 0 0 (.ref a :: As) t I L Rf (pv_is (some v) t1 I1 L1 R1)) (hn : As.length = n) (hst : st0 = As.reverse ++ .ref a :: st) (hW : (st.map fun v => v.category).sum ≤ 8)
    (k : pv_V G M d mc ms Q bc bs (pc + 3) ls (v :: st) t1 I1 L1 R1) : pv_V G M d mc ms Q bc bs pc ls st0 t I L Rf :=
  pv_callSX (bc := bc) (bs := bs) hd hg hlk h16 hs (by omega) hm hn hst hW (fun _ _ _ _ _ hq => by obtain ⟨rfl, rfl, rfl, rfl, rfl⟩ := hq; exact k)
theorem pv_callSX0 {a ci : Nat} {x : MethodName} (hd : decode M.2.1 pc = .ok (.invokespecial idx, 3)) (hg : pv_MG M1 n) (hlk : pv_LSX M.1.cls idx x M1) (h16 : 16 ≤ a) (hs : t.1 a = some (.inr ci)) (hdd : 1 ≤ d) (hm : pv_Mt G M1 (d - 1) 0 0 (.ref a :: As) t I L Rf (pv_is none t1 I1 L1 R1)) (hn : As.length = n) (hst : st0 = As.reverse ++ .ref a :: st) (hW : (st.map fun v => v.category).sum ≤ 8)
    (k : pv_V G M d mc ms Q bc bs (pc + 3) ls st t1 I1 L1 R1) : pv_V G M d mc ms Q bc bs pc ls st0 t I L Rf :=
  pv_callSX (bc := bc) (bs := bs) hd hg hlk h16 hs (by omega) hm hn hst hW (fun _ _ _ _ _ hq => by obtain ⟨rfl, rfl, rfl, rfl, rfl⟩ := hq; exact k)
theorem pv_callSXq {a ci : Nat} {x : MethodName} (hd : decode M.2.1 pc = .ok (.invokespecial idx, 3)) (hg : pv_MG M1 n) (hlk : pv_LSX M.1.cls idx x M1) (h16 : 16 ≤ a) (hs : t.1 a = some (.inr ci)) (hdd : 1 ≤ d) (hm : pv_Mt G M1 (d - 1) 0 0 (.ref a :: As) t I L Rf Q1) (hn : As.length = n) (hst : st0 = As.reverse ++ .ref a :: st) (hW : (st.map fun v => v.category).sum ≤ 8)
    (k : ∀ v t I L Rf, Q1 v t I L Rf → pv_V G M d mc ms Q bc bs (pc + 3) ls (v.toList ++ st) t I L Rf) : pv_V G M d mc ms Q bc bs pc ls st0 t I L Rf :=
  pv_callSX (bc := bc) (bs := bs) hd hg hlk h16 hs (by omega) hm hn hst hW k
theorem pv_callT1 {i : Nat} (hd : decode M.2.1 pc = .ok (.invokevirtual idx, 3)) (hg : pv_MG M1 n) (hlk : pv_LT M.1.cls idx M1) (hi : i < 3) (hdd : 1 ≤ d) (hm : pv_Mt G M1 (d - 1) 0 0 (.ref (2 + i) :: As) t I L Rf (pv_is (some v) t1 I1 L1 R1)) (hn : As.length = n) (hst : st0 = As.reverse ++ .ref (2 + i) :: st) (hW : (st.map fun v => v.category).sum ≤ 8)
    (k : pv_V G M d mc ms Q bc bs (pc + 3) ls (v :: st) t1 I1 L1 R1) : pv_V G M d mc ms Q bc bs pc ls st0 t I L Rf :=
  pv_callT (bc := bc) (bs := bs) hd hg hlk hi (by omega) hm hn hst hW (fun _ _ _ _ _ hq => by obtain ⟨rfl, rfl, rfl, rfl, rfl⟩ := hq; exact k)
theorem pv_callT0 {i : Nat} (hd : decode M.2.1 pc = .ok (.invokevirtual idx, 3)) (hg : pv_MG M1 n) (hlk : pv_LT M.1.cls idx M1) (hi : i < 3) (hdd : 1 ≤ d) (hm : pv_Mt G M1 (d - 1) 0 0 (.ref (2 + i) :: As) t I L Rf (pv_is none t1 I1 L1 R1)) (hn : As.length = n) (hst : st0 = As.reverse ++ .ref (2 + i) :: st) (hW : (st.map fun v => v.category).sum ≤ 8)
    (k : pv_V G M d mc ms Q bc bs (pc + 3) ls st t1 I1 L1 R1) : pv_V G M d mc ms Q bc bs pc ls st0 t I L Rf :=
  pv_callT (bc := bc) (bs := bs) hd hg hlk hi (by omega) hm hn hst hW (fun _ _ _ _ _ hq => by obtain ⟨rfl, rfl, rfl, rfl, rfl⟩ := hq; exact k)
theorem pv_callTq {i : Nat} (hd : decode M.2.1 pc = .ok (.invokevirtual idx, 3)) (hg : pv_MG M1 n) (hlk : pv_LT M.1.cls idx M1) (hi : i < 3) (hdd : 1 ≤ d) (hm : pv_Mt G M1 (d - 1) 0 0 (.ref (2 + i) :: As) t I L Rf Q1) (hn : As.length = n) (hst : st0 = As.reverse ++ .ref (2 + i) :: st) (hW : (st.map fun v => v.category).sum ≤ 8)
    (k : ∀ v t I L Rf, Q1 v t I L Rf → pv_V G M d mc ms Q bc bs (pc + 3) ls (v.toList ++ st) t I L Rf) : pv_V G M d mc ms Q bc bs pc ls st0 t I L Rf :=
  pv_callT (bc := bc) (bs := bs) hd hg hlk hi (by omega) hm hn hst hW k
theorem pv_topv {x y : Int32} (h : x = y) (k : pv_V G M d mc ms Q bc bs pc ls (.int y :: st) t I L Rf) : pv_V G M d mc ms Q bc bs pc ls (.int x :: st) t I L Rf := h ▸ k
theorem pv_u_app {α : Type} (f : Nat → Nat → α) (a j : Nat) (v : α) (x y : Nat) : pv_u f a j v x y = if x = a ∧ y = j then v else f x y := rfl
theorem pv_ur_app {α : Type} (f : Nat → Nat → α) (a : Nat) (g : Nat → α) (x y : Nat) : pv_ur f a g x y = if x = a then g y else f x y := by unfold pv_ur; split <;> rfl
theorem pv_ialoadj {a n j : Nat} {i : Int32} (hd : decode M.2.1 pc = .ok (.iaload, 1)) (hs : t.1 a = some (.inl (.int, n))) (hj : i.toNatClampNeg = j) (hi : vp_in i n) (k : pv_V G M d mc ms Q bc bs (pc + 1) ls (.int (I a j) :: st) t I L Rf) : pv_V G M d mc ms Q bc bs pc ls (.int i :: .ref a :: st) t I L Rf := by
  subst hj; exact pv_iaload hd hs hi k
theorem pv_baloadj {a n j : Nat} {i : Int32} (hd : decode M.2.1 pc = .ok (.baload, 1)) (h16 : a < 16) (hs : t.1 a = some (.inl (.byte, n))) (hj : i.toNatClampNeg = j) (hi : vp_in i n) (k : pv_V G M d mc ms Q bc bs (pc + 1) ls (.int (I a j) :: st) t I L Rf) : pv_V G M d mc ms Q bc bs pc ls (.int i :: .ref a :: st) t I L Rf := by
  subst hj; exact pv_baload hd h16 hs hi k
theorem pv_laloadj {a n j : Nat} {i : Int32} (hd : decode M.2.1 pc = .ok (.laload, 1)) (h16 : 16 ≤ a) (hs : t.1 a = some (.inl (.long, n))) (hj : i.toNatClampNeg = j) (hi : vp_in i n) (k : pv_V G M d mc ms Q bc bs (pc + 1) ls (.long (L a j) :: st) t I L Rf) : pv_V G M d mc ms Q bc bs pc ls (.int i :: .ref a :: st) t I L Rf := by
  subst hj; exact pv_laload hd h16 hs hi k
theorem pv_iastorej {a n j : Nat} {i x : Int32} (hd : decode M.2.1 pc = .ok (.iastore, 1)) (h16 : 16 ≤ a) (hs : t.1 a = some (.inl (.int, n))) (hj : i.toNatClampNeg = j) (hi : vp_in i n) (k : pv_V G M d mc ms Q bc bs (pc + 1) ls st t (pv_u I a j x) L Rf) : pv_V G M d mc ms Q bc bs pc ls (.int x :: .int i :: .ref a :: st) t I L Rf := by
  subst hj; exact pv_iastore hd h16 hs hi k
theorem pv_lastorej {a n j : Nat} {i : Int32} {x : Int64} (hd : decode M.2.1 pc = .ok (.lastore, 1)) (h16 : 16 ≤ a) (hs : t.1 a = some (.inl (.long, n))) (hj : i.toNatClampNeg = j) (hi : vp_in i n) (k : pv_V G M d mc ms Q bc bs (pc + 1) ls st t I (pv_u L a j x) Rf) : pv_V G M d mc ms Q bc bs pc ls (.long x :: .int i :: .ref a :: st) t I L Rf := by
  subst hj; exact pv_lastore hd h16 hs hi k
/-- a weaker end of a contract -/
theorem pv_Mt.post {G : pv_G} {M : pv_Mth} {d mc ms : Nat} {as : List Value} {t : pv_T} {I : pv_I} {L : pv_L} {Rf : pv_R} {Q Q1 : pv_Q} (h : pv_Mt G M d mc ms as t I L Rf Q1) (hq : ∀ v t I L Rf, Q1 v t I L Rf → Q v t I L Rf) : pv_Mt G M d mc ms as t I L Rf Q := by
  intro l p e ha hc hk s m args below hf happ hP hK
  obtain ⟨k, o, h1, h2, h3, ⟨⟨v, t1, I1, L1, R1, q1, q2, q3⟩, q4⟩, q5⟩ := h l p e ha hc hk s m args below hf happ hP hK
  exact ⟨k, o, h1, h2, h3, ⟨⟨v, t1, I1, L1, R1, q1, hq _ _ _ _ _ q2, q3⟩, q4⟩, q5⟩
end PVCV
