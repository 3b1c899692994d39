/-- the machines' row with another machine at a place -/
def xR (S : XS) (i : Nat) (q : Nat) : XS := (S.1, S.2.1, S.2.2.1, S.2.2.2.1, va_up S.2.2.2.2.1 i (some q), S.2.2.2.2.2)
theorem mfoN_ne {S : XS} {q a c : Nat} {g : Nat → Int32} (hq : q ∉ xL S) (ha : a ∈ xL S) (j : Nat) : (xN S q c g).2.2.2.2.2.2.2 a j = mfo S a j := by
  have hne : a ≠ q := fun z => hq (z ▸ ha)
  show va_up S.2.2.2.2.2.2.2 q g a j = _
  rw [va_up_ne _ _ hne]
theorem mclN_ne {S : XS} {q a c : Nat} {g : Nat → Int32} (hq : q ∉ xL S) (ha : a ∈ xL S) (hm : mcl (xmk S a)) : mcl (xmk (xN S q c g) a) := by
  have hne : a ≠ q := fun z => hq (z ▸ ha)
  show mcl (va_up S.2.2.2.2.2.2.1 q c a)
  rw [va_up_ne _ _ hne]
  exact hm
theorem in03 {i : Int32} (h : vp_in i 4) : 0 ≤ i ∧ i ≤ 4 - 1 := by
  obtain ⟨j, hj, rfl⟩ := vp_in_of h (by decide)
  exact ⟨nI_pos' (by omega), nI_le (b := 3) (by omega) (by decide)⟩
set_option maxHeartbeats 4000000 in
set_option maxRecDepth 100000 in
theorem c_X10_canBecome (Z : VZ) (S : XS) (a_ : Nat) (w_ : Int32) (v_ : Int32) (ha : a_ ∈ xL S) (hm : mcl (xmk S a_)) : CtF XW Z yX10_canBecome cX10_canBecome 3 (some .boolean) 1 0 0 [.ref (a_), .int w_, .int v_] (S) (some (.int (bI ((w_ = 0 ∧ (0 ≤ v_ ∧ v_ ≤ 1 <<< (mfo S a_ 1 &&& 31) - 1)) ∨ (w_ = 1 ∧ (-9 ≤ v_ ∧ v_ ≤ 9)) ∨ (w_ = 2 ∧ (1 ≤ v_ ∧ v_ ≤ 1 <<< (mfo S a_ 1 &&& 31) - 1)) ∨ (w_ = 3 ∧ (0 ≤ v_ ∧ v_ ≤ 5)))))) (S) := by
  refine V_entry (own := RX10) (by decide) rfl (Nat.le_of_ble_eq_true rfl) ?_
  intro B hB
  refine V_sub (L' := [(0, .ref (a_)), (1, .int w_), (2, .int v_)]) [0, 1, 2] rfl ?_
  refine V_iload_n (pc := 0) dX10_canBecome_0 1 rfl rfl ?_
  by_cases h1_0 : w_ = 0
  · refine V_eqi 0 h1_0 ?_
    refine V_tableIn (pc := 1) (tgt := 32) dX10_canBecome_1 (by decide) (by decide) rfl (by decide) ?_
    refine V_iload_n (pc := 32) dX10_canBecome_32 2 rfl rfl ?_
    refine V_iconst (v := 0) (pc := 33) dX10_canBecome_33 (by decide) ?_
    refine V_aload_n (pc := 34) dX10_canBecome_34 0 rfl rfl ?_
    refine Xmg_cells (pc := 35) (v := (mfo S a_ 1)) (by exact ha) (by exact hm) rfl dX10_canBecome_35 tw_202 (Or.inl rfl) ?_
    refine V_callSi (pc := 38) dX10_canBecome_38 (c_X10_allCells Z _ _) kX10_64 rfl (Nat.le_of_ble_eq_true rfl) (by decide) (by decide) (Nat.le_of_ble_eq_true rfl) (Nat.le_of_ble_eq_true rfl) ?_
    refine V_callSi (pc := 41) dX10_canBecome_41 (c_X10_between Z _ _ _ _) kX10_60 rfl (Nat.le_of_ble_eq_true rfl) (by decide) (by decide) (Nat.le_of_ble_eq_true rfl) (Nat.le_of_ble_eq_true rfl) ?_
    exact V_zret (pc := 44) dX10_canBecome_44 (Nat.le_of_ble_eq_true rfl) (Nat.le_of_ble_eq_true rfl) (by exact bI_or _) (hB _ _ ⟨congrArg (fun z => some (Value.int z)) (by exact bI_cg (by simp [h1_0])), by rfl⟩)
  by_cases h1_1 : w_ = 1
  · refine V_eqi 1 h1_1 ?_
    refine V_tableIn (pc := 1) (tgt := 45) dX10_canBecome_1 (by decide) (by decide) rfl (by decide) ?_
    refine V_iload_n (pc := 45) dX10_canBecome_45 2 rfl rfl ?_
    refine V_bipush (v := (-9)) (pc := 46) dX10_canBecome_46 (by decide) ?_
    refine V_bipush (v := 9) (pc := 48) dX10_canBecome_48 (by decide) ?_
    refine V_callSi (pc := 50) dX10_canBecome_50 (c_X10_between Z _ _ _ _) kX10_60 rfl (Nat.le_of_ble_eq_true rfl) (by decide) (by decide) (Nat.le_of_ble_eq_true rfl) (Nat.le_of_ble_eq_true rfl) ?_
    exact V_zret (pc := 53) dX10_canBecome_53 (Nat.le_of_ble_eq_true rfl) (Nat.le_of_ble_eq_true rfl) (by exact bI_or _) (hB _ _ ⟨congrArg (fun z => some (Value.int z)) (by exact bI_cg (by simp [h1_1])), by rfl⟩)
  by_cases h1_2 : w_ = 2
  · refine V_eqi 2 h1_2 ?_
    refine V_tableIn (pc := 1) (tgt := 54) dX10_canBecome_1 (by decide) (by decide) rfl (by decide) ?_
    refine V_iload_n (pc := 54) dX10_canBecome_54 2 rfl rfl ?_
    refine V_iconst (v := 1) (pc := 55) dX10_canBecome_55 (by decide) ?_
    refine V_aload_n (pc := 56) dX10_canBecome_56 0 rfl rfl ?_
    refine Xmg_cells (pc := 57) (v := (mfo S a_ 1)) (by exact ha) (by exact hm) rfl dX10_canBecome_57 tw_202 (Or.inl rfl) ?_
    refine V_callSi (pc := 60) dX10_canBecome_60 (c_X10_allCells Z _ _) kX10_64 rfl (Nat.le_of_ble_eq_true rfl) (by decide) (by decide) (Nat.le_of_ble_eq_true rfl) (Nat.le_of_ble_eq_true rfl) ?_
    refine V_callSi (pc := 63) dX10_canBecome_63 (c_X10_between Z _ _ _ _) kX10_60 rfl (Nat.le_of_ble_eq_true rfl) (by decide) (by decide) (Nat.le_of_ble_eq_true rfl) (Nat.le_of_ble_eq_true rfl) ?_
    exact V_zret (pc := 66) dX10_canBecome_66 (Nat.le_of_ble_eq_true rfl) (Nat.le_of_ble_eq_true rfl) (by exact bI_or _) (hB _ _ ⟨congrArg (fun z => some (Value.int z)) (by exact bI_cg (by simp [h1_2])), by rfl⟩)
  by_cases h1_3 : w_ = 3
  · refine V_eqi 3 h1_3 ?_
    refine V_tableIn (pc := 1) (tgt := 67) dX10_canBecome_1 (by decide) (by decide) rfl (by decide) ?_
    refine V_iload_n (pc := 67) dX10_canBecome_67 2 rfl rfl ?_
    refine V_iconst (v := 0) (pc := 68) dX10_canBecome_68 (by decide) ?_
    refine V_iconst (v := 5) (pc := 69) dX10_canBecome_69 (by decide) ?_
    refine V_callSi (pc := 70) dX10_canBecome_70 (c_X10_between Z _ _ _ _) kX10_60 rfl (Nat.le_of_ble_eq_true rfl) (by decide) (by decide) (Nat.le_of_ble_eq_true rfl) (Nat.le_of_ble_eq_true rfl) ?_
    exact V_zret (pc := 73) dX10_canBecome_73 (Nat.le_of_ble_eq_true rfl) (Nat.le_of_ble_eq_true rfl) (by exact bI_or _) (hB _ _ ⟨congrArg (fun z => some (Value.int z)) (by exact bI_cg (by simp [h1_3])), by rfl⟩)
  refine V_tableOut (pc := 1) (tgt := 74) dX10_canBecome_1 (by have a0 := lv_neT h1_0 (a := 0) rfl; have a1 := lv_neT h1_1 (a := 1) rfl; have a2 := lv_neT h1_2 (a := 2) rfl; have a3 := lv_neT h1_3 (a := 3) rfl; omega) (by decide) ?_
  refine V_iconst (v := 0) (pc := 74) dX10_canBecome_74 (by decide) ?_
  exact V_zret (pc := 75) dX10_canBecome_75 (Nat.le_of_ble_eq_true rfl) (Nat.le_of_ble_eq_true rfl) (Or.inl rfl) (hB _ _ ⟨congrArg (fun z => some (Value.int z)) (by exact (bI_f (by simp [h1_0, h1_1, h1_2, h1_3])).symm), by rfl⟩)
