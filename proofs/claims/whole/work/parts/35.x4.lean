def xOK (S : XS) : Prop := ∃ n : Nat, n ≤ 4 ∧ S.1 1 = nI n ∧ ∀ i, i < n → ∃ a, S.2.2.2.2.1 i = some a ∧ a ∈ xL S ∧ mcl (xmk S a)
theorem xAt {S : XS} (h : xOK S) {i : Int32} (h1 : ¬ i < 0) (h9 : ¬ S.1 1 ≤ i) : ∃ a, vp_in i 4 ∧ (0 ≤ i ∧ i < S.1 1) ∧ S.2.2.2.2.1 i.toNatClampNeg = some a ∧ a ∈ xL S ∧ mcl (xmk S a) := by
  obtain ⟨n, hn, e, f⟩ := h
  obtain ⟨j, hj, rfl⟩ := nI_of h1
  rw [e] at h9
  have hlt : j < n := Nat.not_le.mp fun q => h9 (nI_le q hj)
  obtain ⟨a, a1, a2, a3⟩ := f j hlt
  rw [nI_clamp hj]
  exact ⟨a, vp_in_nI (by omega) (by decide), ⟨nI_pos' hj, by rw [e]; exact nI_lt hlt (by omega)⟩, a1, a2, a3⟩
theorem xlt4 {S : XS} (h : xOK S) {i : Int32} (h9 : ¬ S.1 1 ≤ i) : ¬ 4 ≤ i := by
  obtain ⟨n, hn, e, f⟩ := h
  intro q
  rw [e] at h9
  refine h9 (Int32.le_trans ?_ q)
  exact nI_le (b := 4) hn (by decide)
abbrev mAtQ (S : XS) (i : Int32) (v : Option Value) (S' : XS) : Prop := S = S' ∧ ((∃ a, vp_in i 4 ∧ (0 ≤ i ∧ i < S.1 1) ∧ S.2.2.2.2.1 i.toNatClampNeg = some a ∧ a ∈ xL S ∧ mcl (xmk S a) ∧ v = some (.ref a)) ∨ (¬ (0 ≤ i ∧ i < S.1 1) ∧ v = some .null))
abbrev sAtQ (Z : VZ) (S : XS) (i : Int32) (v : Option Value) (S' : XS) : Prop := S = S' ∧ ((vp_in i 4 ∧ i.toNatClampNeg < 4 ∧ (0 ≤ i ∧ i ≤ 3) ∧ v = some (.ref (Z.2.2.2 (10 + i.toNatClampNeg)))) ∨ (¬ (0 ≤ i ∧ i ≤ 3) ∧ v = some .null))
abbrev isU (c : Nat) (k : Int32) : Prop := (k = 1 ∧ (c = 5 ∨ c = 9)) ∨ (k = 2 ∧ c = 9) ∨ (k = 3 ∧ c = 0) ∨ (k = 4 ∧ c = 2) ∨ (k = 5 ∧ c = 6) ∨ (¬ k = 1 ∧ ¬ k = 2 ∧ ¬ k = 3 ∧ ¬ k = 4 ∧ ¬ k = 5)
theorem sIn {i : Int32} (h1 : ¬ i < 0) (h2 : ¬ 4 ≤ i) : vp_in i 4 ∧ i.toNatClampNeg < 4 ∧ (0 ≤ i ∧ i ≤ 3) := by
  obtain ⟨j, hj, rfl⟩ := nI_of h1
  have hlt : j < 4 := Nat.not_le.mp fun q => h2 (nI_le (a := 4) q hj)
  rw [nI_clamp hj]
  exact ⟨vp_in_nI hlt (by decide), hlt, nI_pos' hj, nI_le (b := 3) (by omega) (by decide)⟩
theorem sOut {i : Int32} (h : i < 0 ∨ 4 ≤ i) : ¬ (0 ≤ i ∧ i ≤ 3) := by
  intro q
  have a := Int32.le_iff_toInt_le.mp q.1
  have b := Int32.le_iff_toInt_le.mp q.2
  have e0 : (0 : Int32).toInt = 0 := rfl
  have e3 : (3 : Int32).toInt = 3 := rfl
  have e4 : (4 : Int32).toInt = 4 := rfl
  rcases h with h | h
  · have := Int32.lt_iff_toInt_lt.mp h; omega
  · have := Int32.le_iff_toInt_le.mp h; omega
set_option maxHeartbeats 4000000 in
set_option maxRecDepth 100000 in
theorem c_X10_between (Z : VZ) (S : XS) (a_ : Int32) (b_ : Int32) (c_ : Int32) : CtF XW Z yX10_between cX10_between 3 (some .boolean) 0 0 0 [.int a_, .int b_, .int c_] (S) (some (.int (bI (b_ ≤ a_ ∧ a_ ≤ c_)))) (S) := by
  refine V_entry (own := RX10) (by decide) rfl (Nat.le_of_ble_eq_true rfl) ?_
  intro B hB
  refine V_sub (L' := [(0, .int a_), (1, .int b_), (2, .int c_)]) [0, 1, 2] rfl ?_
  refine V_iload_n (pc := 0) dX10_between_0 0 rfl rfl ?_
  refine V_iload_n (pc := 1) dX10_between_1 1 rfl rfl ?_
  refine V_icmp_lt (pc := 2) (tgt := 14) dX10_between_2 (by decide) (fun h2 => ?_) (fun h2 => ?_)
  · skip
    refine V_iconst (v := 0) (pc := 14) dX10_between_14 (by decide) ?_
    exact V_zret (pc := 15) dX10_between_15 (Nat.le_of_ble_eq_true rfl) (Nat.le_of_ble_eq_true rfl) (Or.inl rfl) (hB _ _ ⟨congrArg (fun z => some (Value.int z)) (by first | exact (bI_t (by first | (clear hB; simp_all [Int32.not_le, Int32.not_lt]; done) | (clear hB; simp only [Int32.not_le, Int32.not_lt, Int32.lt_iff_toInt_lt, Int32.le_iff_toInt_le] at *; omega))).symm | exact (bI_f (by first | (clear hB; simp_all [Int32.not_le, Int32.not_lt]; done) | (clear hB; simp only [Int32.not_le, Int32.not_lt, Int32.lt_iff_toInt_lt, Int32.le_iff_toInt_le] at *; omega))).symm | rfl), by rfl⟩)
  · skip
    refine V_iload_n (pc := 5) dX10_between_5 0 rfl rfl ?_
    refine V_iload_n (pc := 6) dX10_between_6 2 rfl rfl ?_
    refine V_icmp_gt (pc := 7) (tgt := 14) dX10_between_7 (by decide) (fun h7 => ?_) (fun h7 => ?_)
    · skip
      refine V_iconst (v := 0) (pc := 14) dX10_between_14 (by decide) ?_
      exact V_zret (pc := 15) dX10_between_15 (Nat.le_of_ble_eq_true rfl) (Nat.le_of_ble_eq_true rfl) (Or.inl rfl) (hB _ _ ⟨congrArg (fun z => some (Value.int z)) (by first | exact (bI_t (by first | (clear hB; simp_all [Int32.not_le, Int32.not_lt]; done) | (clear hB; simp only [Int32.not_le, Int32.not_lt, Int32.lt_iff_toInt_lt, Int32.le_iff_toInt_le] at *; omega))).symm | exact (bI_f (by first | (clear hB; simp_all [Int32.not_le, Int32.not_lt]; done) | (clear hB; simp only [Int32.not_le, Int32.not_lt, Int32.lt_iff_toInt_lt, Int32.le_iff_toInt_le] at *; omega))).symm | rfl), by rfl⟩)
    · skip
      refine V_iconst (v := 1) (pc := 10) dX10_between_10 (by decide) ?_
      refine V_goto (pc := 11) (tgt := 15) dX10_between_11 (by decide) ?_
      exact V_zret (pc := 15) dX10_between_15 (Nat.le_of_ble_eq_true rfl) (Nat.le_of_ble_eq_true rfl) (Or.inr rfl) (hB _ _ ⟨congrArg (fun z => some (Value.int z)) (by first | exact (bI_t (by first | (clear hB; simp_all [Int32.not_le, Int32.not_lt]; done) | (clear hB; simp only [Int32.not_le, Int32.not_lt, Int32.lt_iff_toInt_lt, Int32.le_iff_toInt_le] at *; omega))).symm | exact (bI_f (by first | (clear hB; simp_all [Int32.not_le, Int32.not_lt]; done) | (clear hB; simp only [Int32.not_le, Int32.not_lt, Int32.lt_iff_toInt_lt, Int32.le_iff_toInt_le] at *; omega))).symm | rfl), by rfl⟩)
set_option maxHeartbeats 4000000 in
set_option maxRecDepth 100000 in
theorem c_X10_allCells (Z : VZ) (S : XS) (c_ : Int32) : CtF XW Z yX10_allCells cX10_allCells 1 (some .int) 0 0 0 [.int c_] (S) (some (.int (1 <<< (c_ &&& 31) - 1))) (S) := by
  refine V_entry (own := RX10) (by decide) rfl (Nat.le_of_ble_eq_true rfl) ?_
  intro B hB
  refine V_sub (L' := [(0, .int c_)]) [0] rfl ?_
  refine V_iconst (v := 1) (pc := 0) dX10_allCells_0 (by decide) ?_
  refine V_iload_n (pc := 1) dX10_allCells_1 0 rfl rfl ?_
  refine V_ishl (pc := 2) dX10_allCells_2 ?_
  refine V_iconst (v := 1) (pc := 3) dX10_allCells_3 (by decide) ?_
  refine V_isub (pc := 4) dX10_allCells_4 ?_
  exact V_iret (pc := 5) dX10_allCells_5 (Nat.le_of_ble_eq_true rfl) (Nat.le_of_ble_eq_true rfl) (hB _ _ ⟨congrArg (fun z => some (Value.int z)) (by first | rfl | assumption | (simp_all; done)), by rfl⟩)
set_option maxHeartbeats 4000000 in
set_option maxRecDepth 100000 in
theorem c_X10_isByte (Z : VZ) (S : XS) (a_ : Int32) : CtF XW Z yX10_isByte cX10_isByte 1 (some .boolean) 1 0 0 [.int a_] (S) (some (.int (bI (0 ≤ a_ ∧ a_ ≤ 255)))) (S) := by
  refine V_entry (own := RX10) (by decide) rfl (Nat.le_of_ble_eq_true rfl) ?_
  intro B hB
  refine V_sub (L' := [(0, .int a_)]) [0] rfl ?_
  refine V_iload_n (pc := 0) dX10_isByte_0 0 rfl rfl ?_
  refine V_iconst (v := 0) (pc := 1) dX10_isByte_1 (by decide) ?_
  refine V_sipush (v := 255) (pc := 2) dX10_isByte_2 (by decide) ?_
  refine V_callSi (pc := 5) dX10_isByte_5 (c_X10_between Z _ _ _ _) kX10_60 rfl (Nat.le_of_ble_eq_true rfl) (by decide) (by decide) (Nat.le_of_ble_eq_true rfl) (Nat.le_of_ble_eq_true rfl) ?_
  exact V_zret (pc := 8) dX10_isByte_8 (Nat.le_of_ble_eq_true rfl) (Nat.le_of_ble_eq_true rfl) (by exact bI_or _) (hB _ _ ⟨congrArg (fun z => some (Value.int z)) (by first | rfl | assumption | (simp_all; done)), by rfl⟩)
set_option maxHeartbeats 4000000 in
set_option maxRecDepth 100000 in
theorem c_X10_machineAt (Z : VZ) (S : XS) (i_ : Int32) (hx : xOK S) : Ct XW Z yX10_machineAt cX10_machineAt 2 (some (.object "CarryShifts$Carrying")) 0 0 0 [.ref (Z.2.2.2 99), .int i_] (S) (fun v S' => mAtQ S i_ v S') := by
  refine V_entry (own := RX10) (by decide) rfl (Nat.le_of_ble_eq_true rfl) ?_
  intro B hB
  refine V_sub (L' := [(0, .ref (Z.2.2.2 99)), (1, .int i_)]) [0, 1] rfl ?_
  refine V_iload_n (pc := 0) dX10_machineAt_0 1 rfl rfl ?_
  refine V_if_lt (pc := 1) (tgt := 30) dX10_machineAt_1 (by decide) (fun h1 => ?_) (fun h1 => ?_)
  · skip
    refine V_null (pc := 30) dX10_machineAt_30 ?_
    exact V_aret (pc := 31) dX10_machineAt_31 (Nat.le_of_ble_eq_true rfl) (Nat.le_of_ble_eq_true rfl) (Or.inl ⟨_, rfl⟩) (Or.inl rfl) (hB _ _ (by exact ⟨rfl, Or.inr ⟨fun h => absurd h1 (Int32.not_lt.mpr h.1), rfl⟩⟩))
  · skip
    refine V_iload_n (pc := 4) dX10_machineAt_4 1 rfl rfl ?_
    refine V_aload_n (pc := 5) dX10_machineAt_5 0 rfl rfl ?_
    refine Xg_X10_17 (pc := 6) (v := (S.1 1)) rfl dX10_machineAt_6 ?_
    refine V_icmp_ge (pc := 9) (tgt := 30) dX10_machineAt_9 (by decide) (fun h9 => ?_) (fun h9 => ?_)
    · skip
      refine V_null (pc := 30) dX10_machineAt_30 ?_
      exact V_aret (pc := 31) dX10_machineAt_31 (Nat.le_of_ble_eq_true rfl) (Nat.le_of_ble_eq_true rfl) (Or.inl ⟨_, rfl⟩) (Or.inl rfl) (hB _ _ (by exact ⟨rfl, Or.inr ⟨fun h => absurd h9 (Int32.not_le.mpr h.2), rfl⟩⟩))
    · skip
      refine V_iload_n (pc := 12) dX10_machineAt_12 1 rfl rfl ?_
      refine V_aload_n (pc := 13) dX10_machineAt_13 0 rfl rfl ?_
      refine Xg_X10_13 (pc := 14) dX10_machineAt_14 ?_
      refine Xn_0 (pc := 17) dX10_machineAt_17 ?_
      refine V_icmp_ge (pc := 18) (tgt := 30) dX10_machineAt_18 (by decide) (fun h18 => ?_) (fun h18 => ?_)
      · skip
        refine V_null (pc := 30) dX10_machineAt_30 ?_
        exact V_aret (pc := 31) dX10_machineAt_31 (Nat.le_of_ble_eq_true rfl) (Nat.le_of_ble_eq_true rfl) (Or.inl ⟨_, rfl⟩) (Or.inl rfl) (hB _ _ (by first | exact ⟨rfl, Or.inl ⟨am_, k1, k2, k3, k4, k5, rfl⟩⟩ | exact absurd h18 (xlt4 hx h9)))
      · skip
        obtain ⟨am_, k1, k2, k3, k4, k5⟩ := xAt hx h1 h9
        refine V_aload_n (pc := 21) dX10_machineAt_21 0 rfl rfl ?_
        refine Xg_X10_13 (pc := 22) dX10_machineAt_22 ?_
        refine V_iload_n (pc := 25) dX10_machineAt_25 1 rfl rfl ?_
        refine Xl_m (pc := 26) (a := am_) dX10_machineAt_26 (by exact k1) (by exact k3) ?_
        refine V_goto (pc := 27) (tgt := 31) dX10_machineAt_27 (by decide) ?_
        exact V_aret (pc := 31) dX10_machineAt_31 (Nat.le_of_ble_eq_true rfl) (Nat.le_of_ble_eq_true rfl) (Or.inl ⟨_, rfl⟩) (Or.inr ⟨_, rfl⟩) (hB _ _ (by first | exact ⟨rfl, Or.inl ⟨am_, k1, k2, k3, k4, k5, rfl⟩⟩ | exact absurd h18 (xlt4 hx h9)))
set_option maxHeartbeats 4000000 in
set_option maxRecDepth 100000 in
theorem c_X10_sheetAt (Z : VZ) (S : XS) (i_ : Int32) : Ct XW Z yX10_sheetAt cX10_sheetAt 2 (some (.object "CarryShifts$Sheet")) 0 0 0 [.ref (Z.2.2.2 99), .int i_] (S) (fun v S' => sAtQ Z S i_ v S') := by
  refine V_entry (own := RX10) (by decide) rfl (Nat.le_of_ble_eq_true rfl) ?_
  intro B hB
  refine V_sub (L' := [(0, .ref (Z.2.2.2 99)), (1, .int i_)]) [0, 1] rfl ?_
  refine V_iload_n (pc := 0) dX10_sheetAt_0 1 rfl rfl ?_
  refine V_if_lt (pc := 1) (tgt := 22) dX10_sheetAt_1 (by decide) (fun h1 => ?_) (fun h1 => ?_)
  · skip
    refine V_null (pc := 22) dX10_sheetAt_22 ?_
    exact V_aret (pc := 23) dX10_sheetAt_23 (Nat.le_of_ble_eq_true rfl) (Nat.le_of_ble_eq_true rfl) (Or.inl ⟨_, rfl⟩) (Or.inl rfl) (hB _ _ (by exact ⟨rfl, Or.inr ⟨sOut (Or.inl h1), rfl⟩⟩))
  · skip
    refine V_iload_n (pc := 4) dX10_sheetAt_4 1 rfl rfl ?_
    refine V_aload_n (pc := 5) dX10_sheetAt_5 0 rfl rfl ?_
    refine Xg_X10_30 (pc := 6) dX10_sheetAt_6 ?_
    refine Xn_4 (pc := 9) dX10_sheetAt_9 ?_
    refine V_icmp_ge (pc := 10) (tgt := 22) dX10_sheetAt_10 (by decide) (fun h10 => ?_) (fun h10 => ?_)
    · skip
      refine V_null (pc := 22) dX10_sheetAt_22 ?_
      exact V_aret (pc := 23) dX10_sheetAt_23 (Nat.le_of_ble_eq_true rfl) (Nat.le_of_ble_eq_true rfl) (Or.inl ⟨_, rfl⟩) (Or.inl rfl) (hB _ _ (by first | exact ⟨rfl, Or.inl ⟨(sIn h1 h10).1, (sIn h1 h10).2.1, (sIn h1 h10).2.2, rfl⟩⟩ | exact ⟨rfl, Or.inr ⟨sOut (Or.inr h10), rfl⟩⟩))
    · skip
      refine V_aload_n (pc := 13) dX10_sheetAt_13 0 rfl rfl ?_
      refine Xg_X10_30 (pc := 14) dX10_sheetAt_14 ?_
      refine V_iload_n (pc := 17) dX10_sheetAt_17 1 rfl rfl ?_
      refine Xl_s (pc := 18) dX10_sheetAt_18 (by exact (sIn h1 h10).1) ?_
      refine V_goto (pc := 19) (tgt := 23) dX10_sheetAt_19 (by decide) ?_
      exact V_aret (pc := 23) dX10_sheetAt_23 (Nat.le_of_ble_eq_true rfl) (Nat.le_of_ble_eq_true rfl) (Or.inl ⟨_, rfl⟩) (Or.inr ⟨_, rfl⟩) (hB _ _ (by first | exact ⟨rfl, Or.inl ⟨(sIn h1 h10).1, (sIn h1 h10).2.1, (sIn h1 h10).2.2, rfl⟩⟩ | exact ⟨rfl, Or.inr ⟨sOut (Or.inr h10), rfl⟩⟩))
set_option maxHeartbeats 4000000 in
set_option maxRecDepth 100000 in
theorem c_X10_isUnder (Z : VZ) (S : XS) (a_ : Nat) (k_ : Int32) (ha : a_ ∈ xL S) (hm : mcl (xmk S a_)) : CtF XW Z yX10_isUnder cX10_isUnder 2 (some .boolean) 0 0 0 [.ref (a_), .int k_] (S) (some (.int (bI (isU (xmk S a_) k_)))) (S) := by
  refine V_entry (own := RX10) (by decide) rfl (Nat.le_of_ble_eq_true rfl) ?_
  intro B hB
  refine V_sub (L' := [(0, .ref (a_)), (1, .int k_)]) [0, 1] rfl ?_
  refine V_iload_n (pc := 0) dX10_isUnder_0 1 rfl rfl ?_
  by_cases h1_1 : k_ = 1
  · refine V_eqi 1 h1_1 ?_
    refine V_tableIn (pc := 1) (tgt := 36) dX10_isUnder_1 (by decide) (by decide) rfl (by decide) ?_
    refine V_aload_n (pc := 36) dX10_isUnder_36 0 rfl rfl ?_
    refine Xinst_294 (pc := 37) (by exact ha) (by exact hm) dX10_isUnder_37 ?_
    exact V_zret (pc := 40) dX10_isUnder_40 (Nat.le_of_ble_eq_true rfl) (Nat.le_of_ble_eq_true rfl) (by split <;> simp) (hB _ _ ⟨congrArg (fun z => some (Value.int z)) (by first | exact (bI_cg (by simp [isU, *])) | exact (bI_t (by simp [isU, *])).symm), by rfl⟩)
  by_cases h1_2 : k_ = 2
  · refine V_eqi 2 h1_2 ?_
    refine V_tableIn (pc := 1) (tgt := 41) dX10_isUnder_1 (by decide) (by decide) rfl (by decide) ?_
    refine V_aload_n (pc := 41) dX10_isUnder_41 0 rfl rfl ?_
    refine Xinst_299 (pc := 42) (by exact ha) (by exact hm) dX10_isUnder_42 ?_
    exact V_zret (pc := 45) dX10_isUnder_45 (Nat.le_of_ble_eq_true rfl) (Nat.le_of_ble_eq_true rfl) (by split <;> simp) (hB _ _ ⟨congrArg (fun z => some (Value.int z)) (by first | exact (bI_cg (by simp [isU, *])) | exact (bI_t (by simp [isU, *])).symm), by rfl⟩)
  by_cases h1_3 : k_ = 3
  · refine V_eqi 3 h1_3 ?_
    refine V_tableIn (pc := 1) (tgt := 46) dX10_isUnder_1 (by decide) (by decide) rfl (by decide) ?_
    refine V_aload_n (pc := 46) dX10_isUnder_46 0 rfl rfl ?_
    refine Xinst_303 (pc := 47) (by exact ha) (by exact hm) dX10_isUnder_47 ?_
    exact V_zret (pc := 50) dX10_isUnder_50 (Nat.le_of_ble_eq_true rfl) (Nat.le_of_ble_eq_true rfl) (by split <;> simp) (hB _ _ ⟨congrArg (fun z => some (Value.int z)) (by first | exact (bI_cg (by simp [isU, *])) | exact (bI_t (by simp [isU, *])).symm), by rfl⟩)
  by_cases h1_4 : k_ = 4
  · refine V_eqi 4 h1_4 ?_
    refine V_tableIn (pc := 1) (tgt := 51) dX10_isUnder_1 (by decide) (by decide) rfl (by decide) ?_
    refine V_aload_n (pc := 51) dX10_isUnder_51 0 rfl rfl ?_
    refine Xinst_306 (pc := 52) (by exact ha) (by exact hm) dX10_isUnder_52 ?_
    exact V_zret (pc := 55) dX10_isUnder_55 (Nat.le_of_ble_eq_true rfl) (Nat.le_of_ble_eq_true rfl) (by split <;> simp) (hB _ _ ⟨congrArg (fun z => some (Value.int z)) (by first | exact (bI_cg (by simp [isU, *])) | exact (bI_t (by simp [isU, *])).symm), by rfl⟩)
  by_cases h1_5 : k_ = 5
  · refine V_eqi 5 h1_5 ?_
    refine V_tableIn (pc := 1) (tgt := 56) dX10_isUnder_1 (by decide) (by decide) rfl (by decide) ?_
    refine V_aload_n (pc := 56) dX10_isUnder_56 0 rfl rfl ?_
    refine Xinst_309 (pc := 57) (by exact ha) (by exact hm) dX10_isUnder_57 ?_
    exact V_zret (pc := 60) dX10_isUnder_60 (Nat.le_of_ble_eq_true rfl) (Nat.le_of_ble_eq_true rfl) (by split <;> simp) (hB _ _ ⟨congrArg (fun z => some (Value.int z)) (by first | exact (bI_cg (by simp [isU, *])) | exact (bI_t (by simp [isU, *])).symm), by rfl⟩)
  refine V_tableOut (pc := 1) (tgt := 61) dX10_isUnder_1 (by have a0 := lv_neT h1_1 (a := 1) rfl; have a1 := lv_neT h1_2 (a := 2) rfl; have a2 := lv_neT h1_3 (a := 3) rfl; have a3 := lv_neT h1_4 (a := 4) rfl; have a4 := lv_neT h1_5 (a := 5) rfl; omega) (by decide) ?_
  refine V_iconst (v := 1) (pc := 61) dX10_isUnder_61 (by decide) ?_
  exact V_zret (pc := 62) dX10_isUnder_62 (Nat.le_of_ble_eq_true rfl) (Nat.le_of_ble_eq_true rfl) (Or.inr rfl) (hB _ _ ⟨congrArg (fun z => some (Value.int z)) (by first | exact (bI_cg (by simp [isU, *])) | exact (bI_t (by simp [isU, *])).symm), by rfl⟩)
def lnkX (c t : Int32) (j : Nat) : Int32 := it (fun i b => b + ((t >>> (nI i &&& 31) &&& 1) <<< ((c - nI i) &&& 31))) j (-1)
set_option maxHeartbeats 4000000 in
set_option maxRecDepth 100000 in
theorem c_X1_links (Z : VZ) (S : XS) (a_ : Nat) (ha : a_ ∈ xL S) (hm : mcl (xmk S a_)) : CtF XW Z yX1_links cX1_links 3 (some .int) 0 0 0 [.ref (a_)] (S) (some (.int (lnkX (mfo S a_ 1) (mfo S a_ 2) (mfo S a_ 1).toNatClampNeg))) (S) := by
  refine V_entry (own := RX1) (by decide) rfl (Nat.le_of_ble_eq_true rfl) ?_
  intro B hB
  refine V_sub (L' := [(0, .ref (a_))]) [0] rfl ?_
  refine V_iconst (v := (-1)) (pc := 0) dX1_links_0 (by decide) ?_
  refine V_istore_n (pc := 1) (L2 := [(0, .ref (a_))]) dX1_links_1 rfl (by decide) rfl (fun x1_1 ex1_1 => ?_)
  subst ex1_1
  refine V_iconst (v := 0) (pc := 2) dX1_links_2 (by decide) ?_
  refine V_istore_n (pc := 3) (L2 := [(1, .int (-1)), (0, .ref (a_))]) dX1_links_3 rfl (by decide) rfl (fun x2_3 ex2_3 => ?_)
  subst ex2_3
  refine V_sub (L' := [(2, .int (nI 0)), (1, .int (-1)), (0, .ref (a_))]) [0, 1, 2] rfl ?_
  refine Vloop (σ := Nat × Int32) (fun x => (x.1) ≤ (mfo S a_ 1).toNatClampNeg ∧ (x.2) = lnkX (mfo S a_ 1) (mfo S a_ 2) (x.1)) (fun x => (mfo S a_ 1).toNatClampNeg - (x.1)) (fun x => V XW Z cX1_links RX1 3 (some .int) 0 0 0 B 0 0 4 [(2, .int (nI (x.1))), (1, .int (x.2)), (0, .ref (a_))] [] (S)) ?_ (0, (-1)) (by exact ⟨Nat.zero_le _, rfl⟩)
  rintro ⟨j, u⟩ hI4 ih4
  have hI4 : j ≤ (mfo S a_ 1).toNatClampNeg ∧ u = lnkX (mfo S a_ 1) (mfo S a_ 2) j := hI4
  show V XW Z cX1_links RX1 3 (some .int) 0 0 0 B 0 0 4 [(2, .int (nI j)), (1, .int u), (0, .ref (a_))] [] (S)
  refine V_iload_n (pc := 4) dX1_links_4 0 rfl rfl ?_
  refine V_aload_n (pc := 5) dX1_links_5 2 rfl rfl ?_
  refine Xmg_cells (pc := 6) (v := (mfo S a_ 1)) (by exact ha) (by exact hm) rfl dX1_links_6 tw_199 (Or.inl rfl) ?_
  refine V_icmp_ge (pc := 9) (tgt := 36) dX1_links_9 (by decide) (fun h9 => ?_) (fun h9 => ?_)
  · skip
    have hj : (mfo S a_ 1).toNatClampNeg ≤ j := jge h9 (Nat.lt_of_le_of_lt hI4.1 (clampLt _))
    have ej : j = (mfo S a_ 1).toNatClampNeg := Nat.le_antisymm hI4.1 hj
    refine V_iload_n (pc := 36) dX1_links_36 1 rfl rfl ?_
    exact V_iret (pc := 37) dX1_links_37 (Nat.le_of_ble_eq_true rfl) (Nat.le_of_ble_eq_true rfl) (hB _ _ ⟨congrArg (fun z => some (Value.int z)) (by rw [hI4.2, ej]), by rfl⟩)
  · skip
    have hj : j < (mfo S a_ 1).toNatClampNeg := jlt h9 (Nat.lt_of_le_of_lt hI4.1 (clampLt _))
    refine V_iload_n (pc := 12) dX1_links_12 1 rfl rfl ?_
    refine V_aload_n (pc := 13) dX1_links_13 2 rfl rfl ?_
    refine Xmg_taps (pc := 14) (v := (mfo S a_ 2)) (by exact ha) (by exact hm) rfl dX1_links_14 tw_203 (Or.inl rfl) ?_
    refine V_iload_n (pc := 17) dX1_links_17 0 rfl rfl ?_
    refine V_ishr (pc := 18) dX1_links_18 ?_
    refine V_iconst (v := 1) (pc := 19) dX1_links_19 (by decide) ?_
    refine V_iand (pc := 20) dX1_links_20 ?_
    refine V_aload_n (pc := 21) dX1_links_21 2 rfl rfl ?_
    refine Xmg_cells (pc := 22) (v := (mfo S a_ 1)) (by exact ha) (by exact hm) rfl dX1_links_22 tw_199 (Or.inl rfl) ?_
    refine V_iload_n (pc := 25) dX1_links_25 0 rfl rfl ?_
    refine V_isub (pc := 26) dX1_links_26 ?_
    refine V_ishl (pc := 27) dX1_links_27 ?_
    refine V_iadd (pc := 28) dX1_links_28 ?_
    refine V_istore_n (pc := 29) (L2 := [(2, .int (nI j)), (0, .ref (a_))]) dX1_links_29 rfl (by decide) rfl (fun x1_29 ex1_29 => ?_)
    subst ex1_29
    refine V_iinc (pc := 30) (v := 1) (L2 := [(1, .int (u + ((((mfo S a_ 2) >>> ((nI j) &&& 31)) &&& 1) <<< (((mfo S a_ 1) - (nI j)) &&& 31)))), (0, .ref (a_))]) dX1_links_30 1 rfl (by decide) (by decide) rfl (fun x2_30 ex2_30 => ?_)
    rw [nI_1] at ex2_30
    subst ex2_30
    refine V_goto (pc := 33) (tgt := 4) dX1_links_33 (by decide) ?_
    refine V_sub (L' := [(2, .int (nI (j + 1))), (1, .int (u + ((((mfo S a_ 2) >>> ((nI j) &&& 31)) &&& 1) <<< (((mfo S a_ 1) - (nI j)) &&& 31)))), (0, .ref (a_))]) [0, 1, 2] rfl ?_
    refine ih4 (((j + 1)), _) ?_ ?_
    · show ((j + 1)) ≤ (mfo S a_ 1).toNatClampNeg ∧ ((u + ((((mfo S a_ 2) >>> ((nI j) &&& 31)) &&& 1) <<< (((mfo S a_ 1) - (nI j)) &&& 31)))) = lnkX (mfo S a_ 1) (mfo S a_ 2) ((j + 1))
      exact ⟨hj, by rw [hI4.2]; rfl⟩
    · show (mfo S a_ 1).toNatClampNeg - (j + 1) < (mfo S a_ 1).toNatClampNeg - j
      omega
set_option maxHeartbeats 4000000 in
set_option maxRecDepth 100000 in
theorem c_X1_standsAs (Z : VZ) (S : XS) (a_ : Nat) (b_ : Nat) (ha : a_ ∈ xL S) (hm : mcl (xmk S a_)) (hb : b_ ∈ xL S) (hn : mcl (xmk S b_)) : CtF XW Z yX1_standsAs cX1_standsAs 2 (some .boolean) 0 0 0 [.ref (a_), .ref (b_)] (S) (some (.int (bI (mfo S a_ 3 = mfo S b_ 3 ∧ mfo S a_ 4 = mfo S b_ 4)))) (S) := by
  refine V_entry (own := RX1) (by decide) rfl (Nat.le_of_ble_eq_true rfl) ?_
  intro B hB
  refine V_sub (L' := [(0, .ref (a_)), (1, .ref (b_))]) [0, 1] rfl ?_
  refine V_aload_n (pc := 0) dX1_standsAs_0 0 rfl rfl ?_
  refine Xmg_state (pc := 1) (v := (mfo S a_ 3)) (by first | exact ha | exact hb) (by first | exact hm | exact hn) rfl dX1_standsAs_1 tw_207 (Or.inl rfl) ?_
  refine V_aload_n (pc := 4) dX1_standsAs_4 1 rfl rfl ?_
  refine Xmg_state (pc := 5) (v := (mfo S b_ 3)) (by first | exact ha | exact hb) (by first | exact hm | exact hn) rfl dX1_standsAs_5 tw_207 (Or.inl rfl) ?_
  refine V_icmp_ne (pc := 8) (tgt := 26) dX1_standsAs_8 (by decide) (fun h8 => ?_) (fun h8 => ?_)
  · skip
    refine V_iconst (v := 0) (pc := 26) dX1_standsAs_26 (by decide) ?_
    exact V_zret (pc := 27) dX1_standsAs_27 (Nat.le_of_ble_eq_true rfl) (Nat.le_of_ble_eq_true rfl) (Or.inl rfl) (hB _ _ ⟨congrArg (fun z => some (Value.int z)) (by exact (bI_f (fun h => h8 h.1)).symm), by rfl⟩)
  · skip
    refine V_aload_n (pc := 11) dX1_standsAs_11 0 rfl rfl ?_
    refine Xmg_carry (pc := 12) (v := (mfo S a_ 4)) (by first | exact ha | exact hb) (by first | exact hm | exact hn) rfl dX1_standsAs_12 tw_211 (Or.inl rfl) ?_
    refine V_aload_n (pc := 15) dX1_standsAs_15 1 rfl rfl ?_
    refine Xmg_carry (pc := 16) (v := (mfo S b_ 4)) (by first | exact ha | exact hb) (by first | exact hm | exact hn) rfl dX1_standsAs_16 tw_211 (Or.inl rfl) ?_
    refine V_icmp_ne (pc := 19) (tgt := 26) dX1_standsAs_19 (by decide) (fun h19 => ?_) (fun h19 => ?_)
    · skip
      refine V_iconst (v := 0) (pc := 26) dX1_standsAs_26 (by decide) ?_
      exact V_zret (pc := 27) dX1_standsAs_27 (Nat.le_of_ble_eq_true rfl) (Nat.le_of_ble_eq_true rfl) (Or.inl rfl) (hB _ _ ⟨congrArg (fun z => some (Value.int z)) (by first | exact (bI_t ⟨h8, h19⟩).symm | exact (bI_f (fun h => h19 h.2)).symm), by rfl⟩)
    · skip
      refine V_iconst (v := 1) (pc := 22) dX1_standsAs_22 (by decide) ?_
      refine V_goto (pc := 23) (tgt := 27) dX1_standsAs_23 (by decide) ?_
      exact V_zret (pc := 27) dX1_standsAs_27 (Nat.le_of_ble_eq_true rfl) (Nat.le_of_ble_eq_true rfl) (Or.inr rfl) (hB _ _ ⟨congrArg (fun z => some (Value.int z)) (by first | exact (bI_t ⟨h8, h19⟩).symm | exact (bI_f (fun h => h19 h.2)).symm), by rfl⟩)
