abbrev mF (S : MS) (k : Nat) (x : Int32) : MS := (va_up S.1 k x, S.2)
abbrev mG (S : MS) (k : Nat) (x : Int64) : MS := (S.1, va_up S.2.1 k x, S.2.2)
abbrev mA (S : MS) (k : Nat) (g : Nat → Int32) : MS := (S.1, S.2.1, va_up S.2.2 k g)
def mOK (S : MS) : Prop := ∃ n : Nat, n ≤ 4 ∧ S.1 0 = nI n
theorem inMach {S : MS} (h : mOK S) {m : Int32} (hm : 0 ≤ m ∧ m ≤ S.1 0 - 1) : vp_in m 4 := by
  obtain ⟨n, hn, e⟩ := h
  rw [e] at hm
  exact inOf hn (by decide) hm
theorem mOK_in {S : MS} (h : mOK S) (h4 : ¬ S.1 0 = 4) : vp_in (S.1 0) 4 := by
  obtain ⟨n, hn, e⟩ := h
  rw [e] at h4 ⊢
  refine vp_in_nI ?_ (by decide)
  rcases Nat.lt_or_ge n 4 with h | h
  · exact h
  · have : n = 4 := by omega
    subst this
    exact absurd rfl h4
theorem inSh {a : Int32} (h : 0 ≤ a ∧ a ≤ 3) : vp_in a 4 := by
  rw [vp_in_iff]
  have h1 := Int32.le_iff_toInt_le.mp h.1
  have h2 := Int32.le_iff_toInt_le.mp h.2
  have e0 : (0 : Int32).toInt = 0 := rfl
  have e3 : (3 : Int32).toInt = 3 := rfl
  omega
def mLay (S : MS) (i : Nat) (k c t s y : Int32) : MS := mA (mA (mA (mA (mA S 1 (upd (S.2.2 1) i k)) 2 (upd (S.2.2 2) i c)) 3 (upd (S.2.2 3) i t)) 4 (upd (S.2.2 4) i s)) 5 (upd (S.2.2 5) i y)
abbrev mV (k c t s : Int32) : Prop := (0 ≤ k ∧ k ≤ 5) ∧ (1 ≤ c ∧ c ≤ 6) ∧ ¬ t < 1 ∧ (0 ≤ t ∧ t ≤ (1 <<< (c &&& 31)) - 1) ∧ (0 ≤ s ∧ s ≤ (1 <<< (c &&& 31)) - 1)
abbrev mSt (what v c : Int32) : Prop := (what = 0 ∧ (0 ≤ v ∧ v ≤ (1 <<< (c &&& 31)) - 1)) ∨ (what = 1 ∧ (-9 ≤ v ∧ v ≤ 9)) ∨ (what = 2 ∧ ¬ v < 1 ∧ (0 ≤ v ∧ v ≤ (1 <<< (c &&& 31)) - 1)) ∨ (what = 3 ∧ (0 ≤ v ∧ v ≤ 5))
def mRk (what : Int32) : Nat := if what = 0 then 4 else if what = 1 then 5 else if what = 2 then 3 else 1
def lnk (c t : Int32) : Int32 := it (fun j a => if t >>> (nI j &&& 31) &&& 1 = 1 then a + 1 <<< ((c - nI j) &&& 31) else a) c.toNatClampNeg 0 - 1
def mMade (k t : Int32) : Int32 := if k = 0 then (if t = 1 then 132 else 13) else if k = 1 then 10 * (if t = 1 then 132 else 13) + 4 else if k = 2 then 100 * (if t = 1 then 132 else 13) + 45 else 10 * (if t = 1 then 132 else 13) + 3 + k
def mOf (S : MS) (i : Nat) (what : Int32) : Int32 := if what = 0 then S.2.2 1 i else if what = 1 then S.2.2 2 i else if what = 2 then S.2.2 3 i else if what = 3 then S.2.2 4 i else if what = 4 then S.2.2 5 i else if what = 5 then mMade (S.2.2 1 i) (S.2.2 3 i) else if what = 6 then lnk (S.2.2 2 i) (S.2.2 3 i) else -1000
set_option maxHeartbeats 4000000 in
set_option maxRecDepth 100000 in
theorem cM_lay (Z : VZ) (S : MS) (a : Int32) (k : Int32) (c : Int32) (t : Int32) (s : Int32) (y : Int32) (ha : vp_in a 4) : CtF MW Z yX11_lay cX11_lay 7 none 0 0 0 [.ref (Z.2.2.2 99), .int a, .int k, .int c, .int t, .int s, .int y] (S) none (mLay S a.toNatClampNeg k c t s y) := by
  refine V_entry (own := RX11) (by decide) rfl (Nat.le_of_ble_eq_true rfl) ?_
  intro B hB
  refine V_sub (L' := [(0, .ref (Z.2.2.2 99)), (1, .int a), (2, .int k), (3, .int c), (4, .int t), (5, .int s), (6, .int y)]) [0, 1, 2, 3, 4, 5, 6] rfl ?_
  refine V_aload_n (pc := 0) dX11_lay_0 0 rfl rfl ?_
  refine Mg_kinds (pc := 1) dX11_lay_1 ?_
  refine V_iload_n (pc := 4) dX11_lay_4 1 rfl rfl ?_
  refine V_iload_n (pc := 5) dX11_lay_5 2 rfl rfl ?_
  refine Ms_kinds (pc := 6) dX11_lay_6 (by first | assumption | decide) ?_
  refine V_aload_n (pc := 7) dX11_lay_7 0 rfl rfl ?_
  refine Mg_cells (pc := 8) dX11_lay_8 ?_
  refine V_iload_n (pc := 11) dX11_lay_11 1 rfl rfl ?_
  refine V_iload_n (pc := 12) dX11_lay_12 3 rfl rfl ?_
  refine Ms_cells (pc := 13) dX11_lay_13 (by first | assumption | decide) ?_
  refine V_aload_n (pc := 14) dX11_lay_14 0 rfl rfl ?_
  refine Mg_taps (pc := 15) dX11_lay_15 ?_
  refine V_iload_n (pc := 18) dX11_lay_18 1 rfl rfl ?_
  refine V_iload (pc := 19) dX11_lay_19 4 rfl ?_
  refine Ms_taps (pc := 21) dX11_lay_21 (by first | assumption | decide) ?_
  refine V_aload_n (pc := 22) dX11_lay_22 0 rfl rfl ?_
  refine Mg_states (pc := 23) dX11_lay_23 ?_
  refine V_iload_n (pc := 26) dX11_lay_26 1 rfl rfl ?_
  refine V_iload (pc := 27) dX11_lay_27 5 rfl ?_
  refine Ms_states (pc := 29) dX11_lay_29 (by first | assumption | decide) ?_
  refine V_aload_n (pc := 30) dX11_lay_30 0 rfl rfl ?_
  refine Mg_carries (pc := 31) dX11_lay_31 ?_
  refine V_iload_n (pc := 34) dX11_lay_34 1 rfl rfl ?_
  refine V_iload (pc := 35) dX11_lay_35 6 rfl ?_
  refine Ms_carries (pc := 37) dX11_lay_37 (by first | assumption | decide) ?_
  exact V_vret (pc := 38) dX11_lay_38 (Nat.le_of_ble_eq_true rfl) (Nat.le_of_ble_eq_true rfl) (hB _ _ ⟨rfl, by rfl⟩)
set_option maxHeartbeats 4000000 in
set_option maxRecDepth 100000 in
theorem cM_machine (Z : VZ) (S : MS) (k : Int32) (c : Int32) (t : Int32) (s : Int32) (hm : mOK S) : CtF MW Z yX11_machine cX11_machine 5 (some .int) 2 0 0 [.ref (Z.2.2.2 99), .int k, .int c, .int t, .int s] (S) (some (.int (if mV k c t s then (if S.1 0 = 4 then -4 else S.1 0 + 1 - 1) else -2))) (if mV k c t s ∧ ¬ S.1 0 = 4 then mF (mLay S (S.1 0).toNatClampNeg k c t s 0) 0 (S.1 0 + 1) else S) := by
  refine V_entry (own := RX11) (by decide) rfl (Nat.le_of_ble_eq_true rfl) ?_
  intro B hB
  refine V_sub (L' := [(0, .ref (Z.2.2.2 99)), (1, .int k), (2, .int c), (3, .int t), (4, .int s)]) [0, 1, 2, 3, 4] rfl ?_
  refine V_iload_n (pc := 0) dX11_machine_0 1 rfl rfl ?_
  refine McSi (pc := 1) dX11_machine_1 (cM_isKind Z _ _) kM_74 rfl (Nat.le_of_ble_eq_true rfl) (by decide) (by decide) ?_
  refine V_bif_eq (pc := 4) (tgt := 39) dX11_machine_4 (by decide) (fun h4 => ?_) (fun h4 => ?_)
  · skip
    refine V_bipush (v := (-2)) (pc := 39) dX11_machine_39 (by decide) ?_
    exact V_iret (pc := 41) dX11_machine_41 (Nat.le_of_ble_eq_true rfl) (Nat.le_of_ble_eq_true rfl) (hB _ _ ⟨congrArg (fun z => some (Value.int z)) (by exact (if_neg (fun h => h4 h.1)).symm), by exact (if_neg (fun h => h4 h.1.1)).symm⟩)
  · skip
    refine V_iload_n (pc := 7) dX11_machine_7 2 rfl rfl ?_
    refine V_iconst (v := 1) (pc := 8) dX11_machine_8 (by decide) ?_
    refine V_bipush (v := 6) (pc := 9) dX11_machine_9 (by decide) ?_
    refine McSi (pc := 11) dX11_machine_11 (cM_in Z _ _ _ _) kM_70 rfl (Nat.le_of_ble_eq_true rfl) (by decide) (by decide) ?_
    refine V_bif_eq (pc := 14) (tgt := 39) dX11_machine_14 (by decide) (fun h14 => ?_) (fun h14 => ?_)
    · skip
      refine V_bipush (v := (-2)) (pc := 39) dX11_machine_39 (by decide) ?_
      exact V_iret (pc := 41) dX11_machine_41 (Nat.le_of_ble_eq_true rfl) (Nat.le_of_ble_eq_true rfl) (hB _ _ ⟨congrArg (fun z => some (Value.int z)) (by exact (if_neg (fun h => h14 h.2.1)).symm), by exact (if_neg (fun h => h14 h.1.2.1)).symm⟩)
    · skip
      refine V_iload_n (pc := 17) dX11_machine_17 3 rfl rfl ?_
      refine V_iconst (v := 1) (pc := 18) dX11_machine_18 (by decide) ?_
      refine V_icmp_lt (pc := 19) (tgt := 39) dX11_machine_19 (by decide) (fun h19 => ?_) (fun h19 => ?_)
      · skip
        refine V_bipush (v := (-2)) (pc := 39) dX11_machine_39 (by decide) ?_
        exact V_iret (pc := 41) dX11_machine_41 (Nat.le_of_ble_eq_true rfl) (Nat.le_of_ble_eq_true rfl) (hB _ _ ⟨congrArg (fun z => some (Value.int z)) (by exact (if_neg (fun h => h.2.2.1 h19)).symm), by exact (if_neg (fun h => h.1.2.2.1 h19)).symm⟩)
      · skip
        refine V_iload_n (pc := 22) dX11_machine_22 3 rfl rfl ?_
        refine V_iload_n (pc := 23) dX11_machine_23 2 rfl rfl ?_
        refine McSi (pc := 24) dX11_machine_24 (cM_isState Z _ _ _) kM_78 rfl (Nat.le_of_ble_eq_true rfl) (by decide) (by decide) ?_
        refine V_bif_eq (pc := 27) (tgt := 39) dX11_machine_27 (by decide) (fun h27 => ?_) (fun h27 => ?_)
        · skip
          refine V_bipush (v := (-2)) (pc := 39) dX11_machine_39 (by decide) ?_
          exact V_iret (pc := 41) dX11_machine_41 (Nat.le_of_ble_eq_true rfl) (Nat.le_of_ble_eq_true rfl) (hB _ _ ⟨congrArg (fun z => some (Value.int z)) (by exact (if_neg (fun h => h27 h.2.2.2.1)).symm), by exact (if_neg (fun h => h27 h.1.2.2.2.1)).symm⟩)
        · skip
          refine V_iload (pc := 30) dX11_machine_30 4 rfl ?_
          refine V_iload_n (pc := 32) dX11_machine_32 2 rfl rfl ?_
          refine McSi (pc := 33) dX11_machine_33 (cM_isState Z _ _ _) kM_78 rfl (Nat.le_of_ble_eq_true rfl) (by decide) (by decide) ?_
          refine V_bif_ne (pc := 36) (tgt := 42) dX11_machine_36 (by decide) (fun h36 => ?_) (fun h36 => ?_)
          · skip
            refine V_aload_n (pc := 42) dX11_machine_42 0 rfl rfl ?_
            refine Mg_many (pc := 43) (v := (S.1 0)) rfl dX11_machine_43 ?_
            refine V_iconst (v := 4) (pc := 46) dX11_machine_46 (by decide) ?_
            refine V_icmp_ne (pc := 47) (tgt := 53) dX11_machine_47 (by decide) (fun h47 => ?_) (fun h47 => ?_)
            · skip
              refine V_aload_n (pc := 53) dX11_machine_53 0 rfl rfl ?_
              refine V_aload_n (pc := 54) dX11_machine_54 0 rfl rfl ?_
              refine Mg_many (pc := 55) (v := (S.1 0)) rfl dX11_machine_55 ?_
              refine V_iload_n (pc := 58) dX11_machine_58 1 rfl rfl ?_
              refine V_iload_n (pc := 59) dX11_machine_59 2 rfl rfl ?_
              refine V_iload_n (pc := 60) dX11_machine_60 3 rfl rfl ?_
              refine V_iload (pc := 61) dX11_machine_61 4 rfl ?_
              refine V_iconst (v := 0) (pc := 63) dX11_machine_63 (by decide) ?_
              refine McVv (pc := 64) dX11_machine_64 (cM_lay Z _ _ _ _ _ _ _ (by exact mOK_in hm h47)) kM_82 rfl rfl (Nat.le_of_ble_eq_true rfl) (by decide) (by decide) ?_
              refine V_aload_n (pc := 67) dX11_machine_67 0 rfl rfl ?_
              refine V_dup (pc := 68) dX11_machine_68 rfl ?_
              refine Mg_many (pc := 69) (v := (S.1 0)) rfl dX11_machine_69 ?_
              refine V_iconst (v := 1) (pc := 72) dX11_machine_72 (by decide) ?_
              refine V_iadd (pc := 73) dX11_machine_73 ?_
              refine Mp_many (pc := 74) dX11_machine_74 ?_
              refine V_aload_n (pc := 77) dX11_machine_77 0 rfl rfl ?_
              refine Mg_many (pc := 78) (v := ((S.1 0) + 1)) rfl dX11_machine_78 ?_
              refine V_iconst (v := 1) (pc := 81) dX11_machine_81 (by decide) ?_
              refine V_isub (pc := 82) dX11_machine_82 ?_
              exact V_iret (pc := 83) dX11_machine_83 (Nat.le_of_ble_eq_true rfl) (Nat.le_of_ble_eq_true rfl) (hB _ _ ⟨congrArg (fun z => some (Value.int z)) (by rw [if_pos ⟨h4, h14, h19, h27, h36⟩, if_neg h47]), by rw [if_pos ⟨⟨h4, h14, h19, h27, h36⟩, h47⟩]⟩)
            · skip
              refine V_bipush (v := (-4)) (pc := 50) dX11_machine_50 (by decide) ?_
              exact V_iret (pc := 52) dX11_machine_52 (Nat.le_of_ble_eq_true rfl) (Nat.le_of_ble_eq_true rfl) (hB _ _ ⟨congrArg (fun z => some (Value.int z)) (by rw [if_pos ⟨h4, h14, h19, h27, h36⟩]; simp [h47]), by rw [if_neg (fun h => h.2 (by simpa using h47))]⟩)
          · skip
            refine V_bipush (v := (-2)) (pc := 39) dX11_machine_39 (by decide) ?_
            exact V_iret (pc := 41) dX11_machine_41 (Nat.le_of_ble_eq_true rfl) (Nat.le_of_ble_eq_true rfl) (hB _ _ ⟨congrArg (fun z => some (Value.int z)) (by exact (if_neg (fun h => h36 h.2.2.2.2)).symm), by exact (if_neg (fun h => h36 h.1.2.2.2.2)).symm⟩)
set_option maxHeartbeats 4000000 in
set_option maxRecDepth 100000 in
theorem cM_isSettable (Z : VZ) (S : MS) (a : Int32) (b : Int32) (v : Int32) (ha : vp_in a 4) : CtF MW Z yX11_isSettable cX11_isSettable 4 (some .boolean) 2 0 0 [.ref (Z.2.2.2 99), .int a, .int b, .int v] (S) (some (.int (bI (mSt b v (S.2.2 2 a.toNatClampNeg))))) (S) := by
  refine V_entry (own := RX11) (by decide) rfl (Nat.le_of_ble_eq_true rfl) ?_
  intro B hB
  refine V_sub (L' := [(0, .ref (Z.2.2.2 99)), (1, .int a), (2, .int b), (3, .int v)]) [0, 1, 2, 3] rfl ?_
  refine V_iload_n (pc := 0) dX11_isSettable_0 2 rfl rfl ?_
  by_cases h1_0 : b = 0
  · refine V_eqi 0 h1_0 ?_
    refine V_tableIn (pc := 1) (tgt := 32) dX11_isSettable_1 (by decide) (by decide) rfl (by decide) ?_
    refine V_iload_n (pc := 32) dX11_isSettable_32 3 rfl rfl ?_
    refine V_aload_n (pc := 33) dX11_isSettable_33 0 rfl rfl ?_
    refine Mg_cells (pc := 34) dX11_isSettable_34 ?_
    refine V_iload_n (pc := 37) dX11_isSettable_37 1 rfl rfl ?_
    refine Ml_cells (pc := 38) dX11_isSettable_38 (by first | assumption | decide) ?_
    refine McSi (pc := 39) dX11_isSettable_39 (cM_isState Z _ _ _) kM_78 rfl (Nat.le_of_ble_eq_true rfl) (by decide) (by decide) ?_
    exact V_zret (pc := 42) dX11_isSettable_42 (Nat.le_of_ble_eq_true rfl) (Nat.le_of_ble_eq_true rfl) (by exact bI_or _) (hB _ _ ⟨congrArg (fun z => some (Value.int z)) (by first | exact bI_cg (by simp [mSt, *]) | exact (bI_t (by simp [mSt, *])).symm | exact (bI_f (by simp [mSt, *])).symm), by rfl⟩)
  by_cases h1_1 : b = 1
  · refine V_eqi 1 h1_1 ?_
    refine V_tableIn (pc := 1) (tgt := 43) dX11_isSettable_1 (by decide) (by decide) rfl (by decide) ?_
    refine V_iload_n (pc := 43) dX11_isSettable_43 3 rfl rfl ?_
    refine V_bipush (v := (-9)) (pc := 44) dX11_isSettable_44 (by decide) ?_
    refine V_bipush (v := 9) (pc := 46) dX11_isSettable_46 (by decide) ?_
    refine McSi (pc := 48) dX11_isSettable_48 (cM_in Z _ _ _ _) kM_70 rfl (Nat.le_of_ble_eq_true rfl) (by decide) (by decide) ?_
    exact V_zret (pc := 51) dX11_isSettable_51 (Nat.le_of_ble_eq_true rfl) (Nat.le_of_ble_eq_true rfl) (by exact bI_or _) (hB _ _ ⟨congrArg (fun z => some (Value.int z)) (by first | exact bI_cg (by simp [mSt, *]) | exact (bI_t (by simp [mSt, *])).symm | exact (bI_f (by simp [mSt, *])).symm), by rfl⟩)
  by_cases h1_2 : b = 2
  · refine V_eqi 2 h1_2 ?_
    refine V_tableIn (pc := 1) (tgt := 52) dX11_isSettable_1 (by decide) (by decide) rfl (by decide) ?_
    refine V_iload_n (pc := 52) dX11_isSettable_52 3 rfl rfl ?_
    refine V_iconst (v := 1) (pc := 53) dX11_isSettable_53 (by decide) ?_
    refine V_icmp_lt (pc := 54) (tgt := 74) dX11_isSettable_54 (by decide) (fun h54 => ?_) (fun h54 => ?_)
    · skip
      refine V_iconst (v := 0) (pc := 74) dX11_isSettable_74 (by decide) ?_
      exact V_zret (pc := 75) dX11_isSettable_75 (Nat.le_of_ble_eq_true rfl) (Nat.le_of_ble_eq_true rfl) (Or.inl rfl) (hB _ _ ⟨congrArg (fun z => some (Value.int z)) (by first | exact bI_cg (by simp [mSt, *]) | exact (bI_t (by simp [mSt, *])).symm | exact (bI_f (by simp [mSt, *])).symm), by rfl⟩)
    · skip
      refine V_iload_n (pc := 57) dX11_isSettable_57 3 rfl rfl ?_
      refine V_aload_n (pc := 58) dX11_isSettable_58 0 rfl rfl ?_
      refine Mg_cells (pc := 59) dX11_isSettable_59 ?_
      refine V_iload_n (pc := 62) dX11_isSettable_62 1 rfl rfl ?_
      refine Ml_cells (pc := 63) dX11_isSettable_63 (by first | assumption | decide) ?_
      refine McSi (pc := 64) dX11_isSettable_64 (cM_isState Z _ _ _) kM_78 rfl (Nat.le_of_ble_eq_true rfl) (by decide) (by decide) ?_
      refine V_bif_eq (pc := 67) (tgt := 74) dX11_isSettable_67 (by decide) (fun h67 => ?_) (fun h67 => ?_)
      · skip
        refine V_iconst (v := 0) (pc := 74) dX11_isSettable_74 (by decide) ?_
        exact V_zret (pc := 75) dX11_isSettable_75 (Nat.le_of_ble_eq_true rfl) (Nat.le_of_ble_eq_true rfl) (Or.inl rfl) (hB _ _ ⟨congrArg (fun z => some (Value.int z)) (by first | exact bI_cg (by simp [mSt, *]) | exact (bI_t (by simp [mSt, *])).symm | exact (bI_f (by simp [mSt, *])).symm), by rfl⟩)
      · skip
        refine V_iconst (v := 1) (pc := 70) dX11_isSettable_70 (by decide) ?_
        refine V_goto (pc := 71) (tgt := 75) dX11_isSettable_71 (by decide) ?_
        exact V_zret (pc := 75) dX11_isSettable_75 (Nat.le_of_ble_eq_true rfl) (Nat.le_of_ble_eq_true rfl) (Or.inr rfl) (hB _ _ ⟨congrArg (fun z => some (Value.int z)) (by first | exact bI_cg (by simp [mSt, *]) | exact (bI_t (by simp [mSt, *])).symm | exact (bI_f (by simp [mSt, *])).symm), by rfl⟩)
  by_cases h1_3 : b = 3
  · refine V_eqi 3 h1_3 ?_
    refine V_tableIn (pc := 1) (tgt := 76) dX11_isSettable_1 (by decide) (by decide) rfl (by decide) ?_
    refine V_iload_n (pc := 76) dX11_isSettable_76 3 rfl rfl ?_
    refine McSi (pc := 77) dX11_isSettable_77 (cM_isKind Z _ _) kM_74 rfl (Nat.le_of_ble_eq_true rfl) (by decide) (by decide) ?_
    exact V_zret (pc := 80) dX11_isSettable_80 (Nat.le_of_ble_eq_true rfl) (Nat.le_of_ble_eq_true rfl) (by exact bI_or _) (hB _ _ ⟨congrArg (fun z => some (Value.int z)) (by first | exact bI_cg (by simp [mSt, *]) | exact (bI_t (by simp [mSt, *])).symm | exact (bI_f (by simp [mSt, *])).symm), by rfl⟩)
  refine V_tableOut (pc := 1) (tgt := 81) dX11_isSettable_1 (by have a0 := lv_neT h1_0 (a := 0) rfl; have a1 := lv_neT h1_1 (a := 1) rfl; have a2 := lv_neT h1_2 (a := 2) rfl; have a3 := lv_neT h1_3 (a := 3) rfl; omega) (by decide) ?_
  refine V_iconst (v := 0) (pc := 81) dX11_isSettable_81 (by decide) ?_
  exact V_zret (pc := 82) dX11_isSettable_82 (Nat.le_of_ble_eq_true rfl) (Nat.le_of_ble_eq_true rfl) (Or.inl rfl) (hB _ _ ⟨congrArg (fun z => some (Value.int z)) (by first | exact bI_cg (by simp [mSt, *]) | exact (bI_t (by simp [mSt, *])).symm | exact (bI_f (by simp [mSt, *])).symm), by rfl⟩)
set_option maxHeartbeats 4000000 in
set_option maxRecDepth 100000 in
theorem cM_rowOf (Z : VZ) (S : MS) (a : Int32) (k : Nat) (hk : k = mRk a) : CtF MW Z yX11_rowOf cX11_rowOf 2 (some (.array .int)) 0 0 0 [.ref (Z.2.2.2 99), .int a] (S) (some (.ref (Z.2.2.2 k))) (S) := by
  refine V_entry (own := RX11) (by decide) rfl (Nat.le_of_ble_eq_true rfl) ?_
  intro B hB
  refine V_sub (L' := [(0, .ref (Z.2.2.2 99)), (1, .int a)]) [0, 1] rfl ?_
  refine V_iload_n (pc := 0) dX11_rowOf_0 1 rfl rfl ?_
  refine V_if_ne (pc := 1) (tgt := 11) dX11_rowOf_1 (by decide) (fun h1 => ?_) (fun h1 => ?_)
  · skip
    refine V_iload_n (pc := 11) dX11_rowOf_11 1 rfl rfl ?_
    refine V_iconst (v := 1) (pc := 12) dX11_rowOf_12 (by decide) ?_
    refine V_icmp_ne (pc := 13) (tgt := 23) dX11_rowOf_13 (by decide) (fun h13 => ?_) (fun h13 => ?_)
    · skip
      refine V_iload_n (pc := 23) dX11_rowOf_23 1 rfl rfl ?_
      refine V_iconst (v := 2) (pc := 24) dX11_rowOf_24 (by decide) ?_
      refine V_icmp_ne (pc := 25) (tgt := 35) dX11_rowOf_25 (by decide) (fun h25 => ?_) (fun h25 => ?_)
      · skip
        refine V_aload_n (pc := 35) dX11_rowOf_35 0 rfl rfl ?_
        refine Mg_kinds (pc := 36) dX11_rowOf_36 ?_
        exact V_aret (pc := 39) dX11_rowOf_39 (Nat.le_of_ble_eq_true rfl) (Nat.le_of_ble_eq_true rfl) (Or.inr ⟨_, rfl⟩) (Or.inr ⟨_, rfl⟩) (hB _ _ ⟨by simp [hk, mRk, *], by rfl⟩)
      · skip
        refine V_aload_n (pc := 28) dX11_rowOf_28 0 rfl rfl ?_
        refine Mg_taps (pc := 29) dX11_rowOf_29 ?_
        refine V_goto (pc := 32) (tgt := 39) dX11_rowOf_32 (by decide) ?_
        exact V_aret (pc := 39) dX11_rowOf_39 (Nat.le_of_ble_eq_true rfl) (Nat.le_of_ble_eq_true rfl) (Or.inr ⟨_, rfl⟩) (Or.inr ⟨_, rfl⟩) (hB _ _ ⟨by simp [hk, mRk, *], by rfl⟩)
    · skip
      refine V_aload_n (pc := 16) dX11_rowOf_16 0 rfl rfl ?_
      refine Mg_carries (pc := 17) dX11_rowOf_17 ?_
      refine V_goto (pc := 20) (tgt := 39) dX11_rowOf_20 (by decide) ?_
      exact V_aret (pc := 39) dX11_rowOf_39 (Nat.le_of_ble_eq_true rfl) (Nat.le_of_ble_eq_true rfl) (Or.inr ⟨_, rfl⟩) (Or.inr ⟨_, rfl⟩) (hB _ _ ⟨by simp [hk, mRk, *], by rfl⟩)
  · skip
    refine V_aload_n (pc := 4) dX11_rowOf_4 0 rfl rfl ?_
    refine Mg_states (pc := 5) dX11_rowOf_5 ?_
    refine V_goto (pc := 8) (tgt := 39) dX11_rowOf_8 (by decide) ?_
    exact V_aret (pc := 39) dX11_rowOf_39 (Nat.le_of_ble_eq_true rfl) (Nat.le_of_ble_eq_true rfl) (Or.inr ⟨_, rfl⟩) (Or.inr ⟨_, rfl⟩) (hB _ _ ⟨by simp [hk, mRk, *], by rfl⟩)
set_option maxHeartbeats 4000000 in
set_option maxRecDepth 100000 in
theorem cM_set (Z : VZ) (S : MS) (a : Int32) (b : Int32) (v : Int32) (hm : mOK S) : CtF MW Z yX11_set cX11_set 5 (some .int) 3 0 0 [.ref (Z.2.2.2 99), .int a, .int b, .int v] (S) (some (.int (if (0 ≤ a ∧ a ≤ S.1 0 - 1) ∧ mSt b v (S.2.2 2 a.toNatClampNeg) then S.2.2 (mRk b) a.toNatClampNeg else -1000))) (if (0 ≤ a ∧ a ≤ S.1 0 - 1) ∧ mSt b v (S.2.2 2 a.toNatClampNeg) then mA S (mRk b) (upd (S.2.2 (mRk b)) a.toNatClampNeg v) else S) := by
  refine V_entry (own := RX11) (by decide) rfl (Nat.le_of_ble_eq_true rfl) ?_
  intro B hB
  refine V_sub (L' := [(0, .ref (Z.2.2.2 99)), (1, .int a), (2, .int b), (3, .int v)]) [0, 1, 2, 3] rfl ?_
  refine V_aload_n (pc := 0) dX11_set_0 0 rfl rfl ?_
  refine V_iload_n (pc := 1) dX11_set_1 1 rfl rfl ?_
  refine McVi (pc := 2) dX11_set_2 (cM_isMachine Z _ _) kM_86 rfl rfl (Nat.le_of_ble_eq_true rfl) (by decide) (by decide) ?_
  refine V_bif_eq (pc := 5) (tgt := 18) dX11_set_5 (by decide) (fun h5 => ?_) (fun h5 => ?_)
  · skip
    refine V_sipush (v := (-1000)) (pc := 18) dX11_set_18 (by decide) ?_
    exact V_iret (pc := 21) dX11_set_21 (Nat.le_of_ble_eq_true rfl) (Nat.le_of_ble_eq_true rfl) (hB _ _ ⟨congrArg (fun z => some (Value.int z)) (by first | exact (if_neg (fun h => h15 h.2)).symm | exact (if_neg (fun h => h5 h.1)).symm), by first | exact (if_neg (fun h => h15 h.2)).symm | exact (if_neg (fun h => h5 h.1)).symm⟩)
  · skip
    refine V_aload_n (pc := 8) dX11_set_8 0 rfl rfl ?_
    refine V_iload_n (pc := 9) dX11_set_9 1 rfl rfl ?_
    refine V_iload_n (pc := 10) dX11_set_10 2 rfl rfl ?_
    refine V_iload_n (pc := 11) dX11_set_11 3 rfl rfl ?_
    refine McVi (pc := 12) dX11_set_12 (cM_isSettable Z _ _ _ _ (by exact inMach hm h5)) kM_89 rfl rfl (Nat.le_of_ble_eq_true rfl) (by decide) (by decide) ?_
    refine V_bif_ne (pc := 15) (tgt := 22) dX11_set_15 (by decide) (fun h15 => ?_) (fun h15 => ?_)
    · skip
      obtain q | q | q | q : b = 0 ∨ b = 1 ∨ b = 2 ∨ b = 3 := by
        rcases h15 with h | h | h | h
        · exact Or.inl h.1
        · exact Or.inr (Or.inl h.1)
        · exact Or.inr (Or.inr (Or.inl h.1))
        · exact Or.inr (Or.inr (Or.inr h.1))
      · skip
        refine V_aload_n (pc := 22) dX11_set_22 0 rfl rfl ?_
        refine V_iload_n (pc := 23) dX11_set_23 2 rfl rfl ?_
        refine McVr (pc := 24) dX11_set_24 (cM_rowOf Z _ _ 4 (by simp [mRk, *])) kM_92 rfl rfl (Nat.le_of_ble_eq_true rfl) (by decide) (by decide) ?_
        refine V_iload_n (pc := 27) dX11_set_27 1 rfl rfl ?_
        refine Ml_states (pc := 28) dX11_set_28 (by exact inMach hm h5) ?_
        refine V_istore (pc := 29) (L2 := [(0, .ref (Z.2.2.2 99)), (1, .int a), (2, .int b), (3, .int v)]) dX11_set_29 (by decide) rfl (fun x4_29 ex4_29 => ?_)
        subst ex4_29
        refine V_aload_n (pc := 31) dX11_set_31 1 rfl rfl ?_
        refine V_iload_n (pc := 32) dX11_set_32 3 rfl rfl ?_
        refine McVr (pc := 33) dX11_set_33 (cM_rowOf Z _ _ 4 (by simp [mRk, *])) kM_92 rfl rfl (Nat.le_of_ble_eq_true rfl) (by decide) (by decide) ?_
        refine V_iload_n (pc := 36) dX11_set_36 2 rfl rfl ?_
        refine V_iload_n (pc := 37) dX11_set_37 4 rfl rfl ?_
        refine Ms_states (pc := 38) dX11_set_38 (by exact inMach hm h5) ?_
        refine V_iload (pc := 39) dX11_set_39 0 rfl ?_
        exact V_iret (pc := 41) dX11_set_41 (Nat.le_of_ble_eq_true rfl) (Nat.le_of_ble_eq_true rfl) (hB _ _ ⟨congrArg (fun z => some (Value.int z)) (by rw [if_pos ⟨h5, h15⟩, q]; rfl), by rw [if_pos ⟨h5, h15⟩, q]; rfl⟩)
      · skip
        refine V_aload_n (pc := 22) dX11_set_22 0 rfl rfl ?_
        refine V_iload_n (pc := 23) dX11_set_23 2 rfl rfl ?_
        refine McVr (pc := 24) dX11_set_24 (cM_rowOf Z _ _ 5 (by simp [mRk, *])) kM_92 rfl rfl (Nat.le_of_ble_eq_true rfl) (by decide) (by decide) ?_
        refine V_iload_n (pc := 27) dX11_set_27 1 rfl rfl ?_
        refine Ml_carries (pc := 28) dX11_set_28 (by exact inMach hm h5) ?_
        refine V_istore (pc := 29) (L2 := [(0, .ref (Z.2.2.2 99)), (1, .int a), (2, .int b), (3, .int v)]) dX11_set_29 (by decide) rfl (fun x4_29 ex4_29 => ?_)
        subst ex4_29
        refine V_aload_n (pc := 31) dX11_set_31 1 rfl rfl ?_
        refine V_iload_n (pc := 32) dX11_set_32 3 rfl rfl ?_
        refine McVr (pc := 33) dX11_set_33 (cM_rowOf Z _ _ 5 (by simp [mRk, *])) kM_92 rfl rfl (Nat.le_of_ble_eq_true rfl) (by decide) (by decide) ?_
        refine V_iload_n (pc := 36) dX11_set_36 2 rfl rfl ?_
        refine V_iload_n (pc := 37) dX11_set_37 4 rfl rfl ?_
        refine Ms_carries (pc := 38) dX11_set_38 (by exact inMach hm h5) ?_
        refine V_iload (pc := 39) dX11_set_39 0 rfl ?_
        exact V_iret (pc := 41) dX11_set_41 (Nat.le_of_ble_eq_true rfl) (Nat.le_of_ble_eq_true rfl) (hB _ _ ⟨congrArg (fun z => some (Value.int z)) (by rw [if_pos ⟨h5, h15⟩, q]; rfl), by rw [if_pos ⟨h5, h15⟩, q]; rfl⟩)
      · skip
        refine V_aload_n (pc := 22) dX11_set_22 0 rfl rfl ?_
        refine V_iload_n (pc := 23) dX11_set_23 2 rfl rfl ?_
        refine McVr (pc := 24) dX11_set_24 (cM_rowOf Z _ _ 3 (by simp [mRk, *])) kM_92 rfl rfl (Nat.le_of_ble_eq_true rfl) (by decide) (by decide) ?_
        refine V_iload_n (pc := 27) dX11_set_27 1 rfl rfl ?_
        refine Ml_taps (pc := 28) dX11_set_28 (by exact inMach hm h5) ?_
        refine V_istore (pc := 29) (L2 := [(0, .ref (Z.2.2.2 99)), (1, .int a), (2, .int b), (3, .int v)]) dX11_set_29 (by decide) rfl (fun x4_29 ex4_29 => ?_)
        subst ex4_29
        refine V_aload_n (pc := 31) dX11_set_31 1 rfl rfl ?_
        refine V_iload_n (pc := 32) dX11_set_32 3 rfl rfl ?_
        refine McVr (pc := 33) dX11_set_33 (cM_rowOf Z _ _ 3 (by simp [mRk, *])) kM_92 rfl rfl (Nat.le_of_ble_eq_true rfl) (by decide) (by decide) ?_
        refine V_iload_n (pc := 36) dX11_set_36 2 rfl rfl ?_
        refine V_iload_n (pc := 37) dX11_set_37 4 rfl rfl ?_
        refine Ms_taps (pc := 38) dX11_set_38 (by exact inMach hm h5) ?_
        refine V_iload (pc := 39) dX11_set_39 0 rfl ?_
        exact V_iret (pc := 41) dX11_set_41 (Nat.le_of_ble_eq_true rfl) (Nat.le_of_ble_eq_true rfl) (hB _ _ ⟨congrArg (fun z => some (Value.int z)) (by rw [if_pos ⟨h5, h15⟩, q]; rfl), by rw [if_pos ⟨h5, h15⟩, q]; rfl⟩)
      · skip
        refine V_aload_n (pc := 22) dX11_set_22 0 rfl rfl ?_
        refine V_iload_n (pc := 23) dX11_set_23 2 rfl rfl ?_
        refine McVr (pc := 24) dX11_set_24 (cM_rowOf Z _ _ 1 (by simp [mRk, *])) kM_92 rfl rfl (Nat.le_of_ble_eq_true rfl) (by decide) (by decide) ?_
        refine V_iload_n (pc := 27) dX11_set_27 1 rfl rfl ?_
        refine Ml_kinds (pc := 28) dX11_set_28 (by exact inMach hm h5) ?_
        refine V_istore (pc := 29) (L2 := [(0, .ref (Z.2.2.2 99)), (1, .int a), (2, .int b), (3, .int v)]) dX11_set_29 (by decide) rfl (fun x4_29 ex4_29 => ?_)
        subst ex4_29
        refine V_aload_n (pc := 31) dX11_set_31 1 rfl rfl ?_
        refine V_iload_n (pc := 32) dX11_set_32 3 rfl rfl ?_
        refine McVr (pc := 33) dX11_set_33 (cM_rowOf Z _ _ 1 (by simp [mRk, *])) kM_92 rfl rfl (Nat.le_of_ble_eq_true rfl) (by decide) (by decide) ?_
        refine V_iload_n (pc := 36) dX11_set_36 2 rfl rfl ?_
        refine V_iload_n (pc := 37) dX11_set_37 4 rfl rfl ?_
        refine Ms_kinds (pc := 38) dX11_set_38 (by exact inMach hm h5) ?_
        refine V_iload (pc := 39) dX11_set_39 0 rfl ?_
        exact V_iret (pc := 41) dX11_set_41 (Nat.le_of_ble_eq_true rfl) (Nat.le_of_ble_eq_true rfl) (hB _ _ ⟨congrArg (fun z => some (Value.int z)) (by rw [if_pos ⟨h5, h15⟩, q]; rfl), by rw [if_pos ⟨h5, h15⟩, q]; rfl⟩)
    · skip
      refine V_sipush (v := (-1000)) (pc := 18) dX11_set_18 (by decide) ?_
      exact V_iret (pc := 21) dX11_set_21 (Nat.le_of_ble_eq_true rfl) (Nat.le_of_ble_eq_true rfl) (hB _ _ ⟨congrArg (fun z => some (Value.int z)) (by first | exact (if_neg (fun h => h15 h.2)).symm | exact (if_neg (fun h => h5 h.1)).symm), by first | exact (if_neg (fun h => h15 h.2)).symm | exact (if_neg (fun h => h5 h.1)).symm⟩)
set_option maxHeartbeats 4000000 in
set_option maxRecDepth 100000 in
theorem cM_made (Z : VZ) (S : MS) (a : Int32) (ha : vp_in a 4) : CtF MW Z yX11_made cX11_made 3 (some .int) 0 0 0 [.ref (Z.2.2.2 99), .int a] (S) (some (.int (mMade (S.2.2 1 a.toNatClampNeg) (S.2.2 3 a.toNatClampNeg)))) (S) := by
  refine V_entry (own := RX11) (by decide) rfl (Nat.le_of_ble_eq_true rfl) ?_
  intro B hB
  refine V_sub (L' := [(0, .ref (Z.2.2.2 99)), (1, .int a)]) [0, 1] rfl ?_
  refine V_aload_n (pc := 0) dX11_made_0 0 rfl rfl ?_
  refine Mg_taps (pc := 1) dX11_made_1 ?_
  refine V_iload_n (pc := 4) dX11_made_4 1 rfl rfl ?_
  refine Ml_taps (pc := 5) dX11_made_5 (by first | assumption | decide) ?_
  refine V_iconst (v := 1) (pc := 6) dX11_made_6 (by decide) ?_
  refine V_icmp_ne (pc := 7) (tgt := 16) dX11_made_7 (by decide) (fun h7 => ?_) (fun h7 => ?_)
  · skip
    refine V_bipush (v := 13) (pc := 16) dX11_made_16 (by decide) ?_
    refine V_istore_n (pc := 18) (L2 := [(0, .ref (Z.2.2.2 99)), (1, .int a)]) dX11_made_18 rfl (by decide) rfl (fun x2_18 ex2_18 => ?_)
    subst ex2_18
    refine V_aload_n (pc := 19) dX11_made_19 1 rfl rfl ?_
    refine Mg_kinds (pc := 20) dX11_made_20 ?_
    refine V_iload_n (pc := 23) dX11_made_23 2 rfl rfl ?_
    refine Ml_kinds (pc := 24) dX11_made_24 (by first | assumption | decide) ?_
    by_cases h25_0 : (S.2.2 1 (a).toNatClampNeg) = 0
    · refine V_eqi 0 h25_0 ?_
      refine V_tableIn (pc := 25) (tgt := 52) dX11_made_25 (by decide) (by decide) rfl (by decide) ?_
      refine V_iload_n (pc := 52) dX11_made_52 0 rfl rfl ?_
      exact V_iret (pc := 53) dX11_made_53 (Nat.le_of_ble_eq_true rfl) (Nat.le_of_ble_eq_true rfl) (hB _ _ ⟨congrArg (fun z => some (Value.int z)) (by simp [mMade, *]), by rfl⟩)
    by_cases h25_1 : (S.2.2 1 (a).toNatClampNeg) = 1
    · refine V_eqi 1 h25_1 ?_
      refine V_tableIn (pc := 25) (tgt := 54) dX11_made_25 (by decide) (by decide) rfl (by decide) ?_
      refine V_bipush (v := 10) (pc := 54) dX11_made_54 (by decide) ?_
      refine V_iload_n (pc := 56) dX11_made_56 0 rfl rfl ?_
      refine V_imul (pc := 57) dX11_made_57 ?_
      refine V_iconst (v := 4) (pc := 58) dX11_made_58 (by decide) ?_
      refine V_iadd (pc := 59) dX11_made_59 ?_
      exact V_iret (pc := 60) dX11_made_60 (Nat.le_of_ble_eq_true rfl) (Nat.le_of_ble_eq_true rfl) (hB _ _ ⟨congrArg (fun z => some (Value.int z)) (by simp [mMade, *]), by rfl⟩)
    by_cases h25_2 : (S.2.2 1 (a).toNatClampNeg) = 2
    · refine V_eqi 2 h25_2 ?_
      refine V_tableIn (pc := 25) (tgt := 61) dX11_made_25 (by decide) (by decide) rfl (by decide) ?_
      refine V_bipush (v := 100) (pc := 61) dX11_made_61 (by decide) ?_
      refine V_iload_n (pc := 63) dX11_made_63 0 rfl rfl ?_
      refine V_imul (pc := 64) dX11_made_64 ?_
      refine V_bipush (v := 45) (pc := 65) dX11_made_65 (by decide) ?_
      refine V_iadd (pc := 67) dX11_made_67 ?_
      exact V_iret (pc := 68) dX11_made_68 (Nat.le_of_ble_eq_true rfl) (Nat.le_of_ble_eq_true rfl) (hB _ _ ⟨congrArg (fun z => some (Value.int z)) (by simp [mMade, *]), by rfl⟩)
    refine V_tableOut (pc := 25) (tgt := 69) dX11_made_25 (by have a0 := lv_neT h25_0 (a := 0) rfl; have a1 := lv_neT h25_1 (a := 1) rfl; have a2 := lv_neT h25_2 (a := 2) rfl; omega) (by decide) ?_
    refine V_bipush (v := 10) (pc := 69) dX11_made_69 (by decide) ?_
    refine V_iload_n (pc := 71) dX11_made_71 0 rfl rfl ?_
    refine V_imul (pc := 72) dX11_made_72 ?_
    refine V_iconst (v := 3) (pc := 73) dX11_made_73 (by decide) ?_
    refine V_iadd (pc := 74) dX11_made_74 ?_
    refine V_aload_n (pc := 75) dX11_made_75 1 rfl rfl ?_
    refine Mg_kinds (pc := 76) dX11_made_76 ?_
    refine V_iload_n (pc := 79) dX11_made_79 2 rfl rfl ?_
    refine Ml_kinds (pc := 80) dX11_made_80 (by first | assumption | decide) ?_
    refine V_iadd (pc := 81) dX11_made_81 ?_
    exact V_iret (pc := 82) dX11_made_82 (Nat.le_of_ble_eq_true rfl) (Nat.le_of_ble_eq_true rfl) (hB _ _ ⟨congrArg (fun z => some (Value.int z)) (by simp [mMade, *]), by rfl⟩)
  · skip
    refine V_sipush (v := 132) (pc := 10) dX11_made_10 (by decide) ?_
    refine V_goto (pc := 13) (tgt := 18) dX11_made_13 (by decide) ?_
    refine V_istore_n (pc := 18) (L2 := [(0, .ref (Z.2.2.2 99)), (1, .int a)]) dX11_made_18 rfl (by decide) rfl (fun x2_18 ex2_18 => ?_)
    subst ex2_18
    refine V_aload_n (pc := 19) dX11_made_19 1 rfl rfl ?_
    refine Mg_kinds (pc := 20) dX11_made_20 ?_
    refine V_iload_n (pc := 23) dX11_made_23 2 rfl rfl ?_
    refine Ml_kinds (pc := 24) dX11_made_24 (by first | assumption | decide) ?_
    by_cases h25_0 : (S.2.2 1 (a).toNatClampNeg) = 0
    · refine V_eqi 0 h25_0 ?_
      refine V_tableIn (pc := 25) (tgt := 52) dX11_made_25 (by decide) (by decide) rfl (by decide) ?_
      refine V_iload_n (pc := 52) dX11_made_52 0 rfl rfl ?_
      exact V_iret (pc := 53) dX11_made_53 (Nat.le_of_ble_eq_true rfl) (Nat.le_of_ble_eq_true rfl) (hB _ _ ⟨congrArg (fun z => some (Value.int z)) (by simp [mMade, *]), by rfl⟩)
    by_cases h25_1 : (S.2.2 1 (a).toNatClampNeg) = 1
    · refine V_eqi 1 h25_1 ?_
      refine V_tableIn (pc := 25) (tgt := 54) dX11_made_25 (by decide) (by decide) rfl (by decide) ?_
      refine V_bipush (v := 10) (pc := 54) dX11_made_54 (by decide) ?_
      refine V_iload_n (pc := 56) dX11_made_56 0 rfl rfl ?_
      refine V_imul (pc := 57) dX11_made_57 ?_
      refine V_iconst (v := 4) (pc := 58) dX11_made_58 (by decide) ?_
      refine V_iadd (pc := 59) dX11_made_59 ?_
      exact V_iret (pc := 60) dX11_made_60 (Nat.le_of_ble_eq_true rfl) (Nat.le_of_ble_eq_true rfl) (hB _ _ ⟨congrArg (fun z => some (Value.int z)) (by simp [mMade, *]), by rfl⟩)
    by_cases h25_2 : (S.2.2 1 (a).toNatClampNeg) = 2
    · refine V_eqi 2 h25_2 ?_
      refine V_tableIn (pc := 25) (tgt := 61) dX11_made_25 (by decide) (by decide) rfl (by decide) ?_
      refine V_bipush (v := 100) (pc := 61) dX11_made_61 (by decide) ?_
      refine V_iload_n (pc := 63) dX11_made_63 0 rfl rfl ?_
      refine V_imul (pc := 64) dX11_made_64 ?_
      refine V_bipush (v := 45) (pc := 65) dX11_made_65 (by decide) ?_
      refine V_iadd (pc := 67) dX11_made_67 ?_
      exact V_iret (pc := 68) dX11_made_68 (Nat.le_of_ble_eq_true rfl) (Nat.le_of_ble_eq_true rfl) (hB _ _ ⟨congrArg (fun z => some (Value.int z)) (by simp [mMade, *]), by rfl⟩)
    refine V_tableOut (pc := 25) (tgt := 69) dX11_made_25 (by have a0 := lv_neT h25_0 (a := 0) rfl; have a1 := lv_neT h25_1 (a := 1) rfl; have a2 := lv_neT h25_2 (a := 2) rfl; omega) (by decide) ?_
    refine V_bipush (v := 10) (pc := 69) dX11_made_69 (by decide) ?_
    refine V_iload_n (pc := 71) dX11_made_71 0 rfl rfl ?_
    refine V_imul (pc := 72) dX11_made_72 ?_
    refine V_iconst (v := 3) (pc := 73) dX11_made_73 (by decide) ?_
    refine V_iadd (pc := 74) dX11_made_74 ?_
    refine V_aload_n (pc := 75) dX11_made_75 1 rfl rfl ?_
    refine Mg_kinds (pc := 76) dX11_made_76 ?_
    refine V_iload_n (pc := 79) dX11_made_79 2 rfl rfl ?_
    refine Ml_kinds (pc := 80) dX11_made_80 (by first | assumption | decide) ?_
    refine V_iadd (pc := 81) dX11_made_81 ?_
    exact V_iret (pc := 82) dX11_made_82 (Nat.le_of_ble_eq_true rfl) (Nat.le_of_ble_eq_true rfl) (hB _ _ ⟨congrArg (fun z => some (Value.int z)) (by simp [mMade, *]), by rfl⟩)
set_option maxHeartbeats 4000000 in
set_option maxRecDepth 100000 in
theorem cM_links (Z : VZ) (S : MS) (a : Int32) (ha : vp_in a 4) : CtF MW Z yX11_links cX11_links 4 (some .int) 1 0 0 [.ref (Z.2.2.2 99), .int a] (S) (some (.int (lnk (S.2.2 2 a.toNatClampNeg) (S.2.2 3 a.toNatClampNeg)))) (S) := by
  refine V_entry (own := RX11) (by decide) rfl (Nat.le_of_ble_eq_true rfl) ?_
  intro B hB
  refine V_sub (L' := [(0, .ref (Z.2.2.2 99)), (1, .int a)]) [0, 1] rfl ?_
  refine V_iconst (v := 0) (pc := 0) dX11_links_0 (by decide) ?_
  refine V_istore_n (pc := 1) (L2 := [(0, .ref (Z.2.2.2 99)), (1, .int a)]) dX11_links_1 rfl (by decide) rfl (fun x2_1 ex2_1 => ?_)
  subst ex2_1
  refine V_iconst (v := 0) (pc := 2) dX11_links_2 (by decide) ?_
  refine V_istore_n (pc := 3) (L2 := [(2, .int 0), (0, .ref (Z.2.2.2 99)), (1, .int a)]) dX11_links_3 rfl (by decide) rfl (fun x3_3 ex3_3 => ?_)
  subst ex3_3
  refine V_sub (L' := [(3, .int (nI 0)), (2, .int 0), (0, .ref (Z.2.2.2 99)), (1, .int a)]) [0, 1, 2, 3] rfl ?_
  refine Vloop (σ := Nat × Int32) (fun x => (x.1) ≤ (S.2.2 2 a.toNatClampNeg).toNatClampNeg ∧ (x.2) = it (fun i b => if (S.2.2 3 a.toNatClampNeg) >>> (nI i &&& 31) &&& 1 = 1 then b + 1 <<< (((S.2.2 2 a.toNatClampNeg) - nI i) &&& 31) else b) (x.1) 0) (fun x => (S.2.2 2 a.toNatClampNeg).toNatClampNeg - (x.1)) (fun x => V MW Z cX11_links RX11 4 (some .int) 1 0 0 B 0 0 4 [(3, .int (nI (x.1))), (2, .int (x.2)), (0, .ref (Z.2.2.2 99)), (1, .int a)] [] (S)) ?_ (0, 0) (by exact ⟨Nat.zero_le _, rfl⟩)
  rintro ⟨j, u⟩ hI4 ih4
  have hI4 : j ≤ (S.2.2 2 a.toNatClampNeg).toNatClampNeg ∧ u = it (fun i b => if (S.2.2 3 a.toNatClampNeg) >>> (nI i &&& 31) &&& 1 = 1 then b + 1 <<< (((S.2.2 2 a.toNatClampNeg) - nI i) &&& 31) else b) j 0 := hI4
  show V MW Z cX11_links RX11 4 (some .int) 1 0 0 B 0 0 4 [(3, .int (nI j)), (2, .int u), (0, .ref (Z.2.2.2 99)), (1, .int a)] [] (S)
  refine V_iload_n (pc := 4) dX11_links_4 0 rfl rfl ?_
  refine V_aload_n (pc := 5) dX11_links_5 2 rfl rfl ?_
  refine Mg_cells (pc := 6) dX11_links_6 ?_
  refine V_iload_n (pc := 9) dX11_links_9 3 rfl rfl ?_
  refine Ml_cells (pc := 10) dX11_links_10 (by first | assumption | decide) ?_
  refine V_icmp_ge (pc := 11) (tgt := 46) dX11_links_11 (by decide) (fun h11 => ?_) (fun h11 => ?_)
  · skip
    have hj := jge h11 (Nat.lt_of_le_of_lt hI4.1 (clampLt _))
    have ej := Nat.le_antisymm hI4.1 hj
    refine V_iload_n (pc := 46) dX11_links_46 1 rfl rfl ?_
    refine V_iconst (v := 1) (pc := 47) dX11_links_47 (by decide) ?_
    refine V_isub (pc := 48) dX11_links_48 ?_
    exact V_iret (pc := 49) dX11_links_49 (Nat.le_of_ble_eq_true rfl) (Nat.le_of_ble_eq_true rfl) (hB _ _ ⟨congrArg (fun z => some (Value.int z)) (by rw [hI4.2, ej]; rfl), by rfl⟩)
  · skip
    have hj := jlt h11 (Nat.lt_of_le_of_lt hI4.1 (clampLt _))
    refine V_aload_n (pc := 14) dX11_links_14 2 rfl rfl ?_
    refine Mg_taps (pc := 15) dX11_links_15 ?_
    refine V_iload_n (pc := 18) dX11_links_18 3 rfl rfl ?_
    refine Ml_taps (pc := 19) dX11_links_19 (by first | assumption | decide) ?_
    refine V_iload_n (pc := 20) dX11_links_20 0 rfl rfl ?_
    refine McSi (pc := 21) dX11_links_21 (cM_has Z _ _ _) kM_96 rfl (Nat.le_of_ble_eq_true rfl) (by decide) (by decide) ?_
    refine V_bif_eq (pc := 24) (tgt := 40) dX11_links_24 (by decide) (fun h24 => ?_) (fun h24 => ?_)
    · skip
      refine V_iinc (pc := 40) (v := 1) (L2 := [(2, .int u), (0, .ref (Z.2.2.2 99)), (1, .int a)]) dX11_links_40 0 rfl (by decide) (by decide) rfl (fun x3_40 ex3_40 => ?_)
      rw [nI_1] at ex3_40
      subst ex3_40
      refine V_goto (pc := 43) (tgt := 4) dX11_links_43 (by decide) ?_
      refine V_sub (L' := [(3, .int (nI (j + 1))), (2, .int u), (0, .ref (Z.2.2.2 99)), (1, .int a)]) [0, 1, 2, 3] rfl ?_
      refine ih4 (((j + 1)), _) ?_ ?_
      · show ((j + 1)) ≤ (S.2.2 2 a.toNatClampNeg).toNatClampNeg ∧ (u) = it (fun i b => if (S.2.2 3 a.toNatClampNeg) >>> (nI i &&& 31) &&& 1 = 1 then b + 1 <<< (((S.2.2 2 a.toNatClampNeg) - nI i) &&& 31) else b) ((j + 1)) 0
        refine ⟨hj, ?_⟩
        simp only [it]
        first | rw [if_pos h24, hI4.2] | rw [if_neg h24, hI4.2]
      · show _ - (j + 1) < _ - j
        omega
    · skip
      refine V_iload_n (pc := 27) dX11_links_27 1 rfl rfl ?_
      refine V_iconst (v := 1) (pc := 28) dX11_links_28 (by decide) ?_
      refine V_aload_n (pc := 29) dX11_links_29 2 rfl rfl ?_
      refine Mg_cells (pc := 30) dX11_links_30 ?_
      refine V_iload_n (pc := 33) dX11_links_33 3 rfl rfl ?_
      refine Ml_cells (pc := 34) dX11_links_34 (by first | assumption | decide) ?_
      refine V_iload_n (pc := 35) dX11_links_35 0 rfl rfl ?_
      refine V_isub (pc := 36) dX11_links_36 ?_
      refine V_ishl (pc := 37) dX11_links_37 ?_
      refine V_iadd (pc := 38) dX11_links_38 ?_
      refine V_istore_n (pc := 39) (L2 := [(3, .int (nI j)), (0, .ref (Z.2.2.2 99)), (1, .int a)]) dX11_links_39 rfl (by decide) rfl (fun x2_39 ex2_39 => ?_)
      subst ex2_39
      refine V_iinc (pc := 40) (v := 1) (L2 := [(2, .int (u + (1 <<< (((S.2.2 2 (a).toNatClampNeg) - (nI j)) &&& 31)))), (0, .ref (Z.2.2.2 99)), (1, .int a)]) dX11_links_40 1 rfl (by decide) (by decide) rfl (fun x3_40 ex3_40 => ?_)
      rw [nI_1] at ex3_40
      subst ex3_40
      refine V_goto (pc := 43) (tgt := 4) dX11_links_43 (by decide) ?_
      refine V_sub (L' := [(3, .int (nI (j + 1))), (2, .int (u + (1 <<< (((S.2.2 2 (a).toNatClampNeg) - (nI j)) &&& 31)))), (0, .ref (Z.2.2.2 99)), (1, .int a)]) [0, 1, 2, 3] rfl ?_
      refine ih4 (((j + 1)), _) ?_ ?_
      · show ((j + 1)) ≤ (S.2.2 2 a.toNatClampNeg).toNatClampNeg ∧ ((u + (1 <<< (((S.2.2 2 (a).toNatClampNeg) - (nI j)) &&& 31)))) = it (fun i b => if (S.2.2 3 a.toNatClampNeg) >>> (nI i &&& 31) &&& 1 = 1 then b + 1 <<< (((S.2.2 2 a.toNatClampNeg) - nI i) &&& 31) else b) ((j + 1)) 0
        refine ⟨hj, ?_⟩
        simp only [it]
        first | rw [if_pos h24, hI4.2] | rw [if_neg h24, hI4.2]
      · show _ - (j + 1) < _ - j
        omega
set_option maxHeartbeats 4000000 in
set_option maxRecDepth 100000 in
theorem cM_of (Z : VZ) (S : MS) (a : Int32) (b : Int32) (hm : mOK S) : CtF MW Z yX11_of cX11_of 3 (some .int) 2 0 0 [.ref (Z.2.2.2 99), .int a, .int b] (S) (some (.int (if 0 ≤ a ∧ a ≤ S.1 0 - 1 then mOf S a.toNatClampNeg b else -1000))) (S) := by
  refine V_entry (own := RX11) (by decide) rfl (Nat.le_of_ble_eq_true rfl) ?_
  intro B hB
  refine V_sub (L' := [(0, .ref (Z.2.2.2 99)), (1, .int a), (2, .int b)]) [0, 1, 2] rfl ?_
  refine V_aload_n (pc := 0) dX11_of_0 0 rfl rfl ?_
  refine V_iload_n (pc := 1) dX11_of_1 1 rfl rfl ?_
  refine McVi (pc := 2) dX11_of_2 (cM_isMachine Z _ _) kM_86 rfl rfl (Nat.le_of_ble_eq_true rfl) (by decide) (by decide) ?_
  refine V_bif_ne (pc := 5) (tgt := 12) dX11_of_5 (by decide) (fun h5 => ?_) (fun h5 => ?_)
  · skip
    refine V_iload_n (pc := 12) dX11_of_12 2 rfl rfl ?_
    by_cases h13_0 : b = 0
    · refine V_eqi 0 h13_0 ?_
      refine V_tableIn (pc := 13) (tgt := 56) dX11_of_13 (by decide) (by decide) rfl (by decide) ?_
      refine V_aload_n (pc := 56) dX11_of_56 0 rfl rfl ?_
      refine Mg_kinds (pc := 57) dX11_of_57 ?_
      refine V_iload_n (pc := 60) dX11_of_60 1 rfl rfl ?_
      refine Ml_kinds (pc := 61) dX11_of_61 (by exact inMach hm h5) ?_
      exact V_iret (pc := 62) dX11_of_62 (Nat.le_of_ble_eq_true rfl) (Nat.le_of_ble_eq_true rfl) (hB _ _ ⟨congrArg (fun z => some (Value.int z)) (by first | rw [if_pos h5]; simp [mOf, *]; done | exact (if_neg h5).symm), by rfl⟩)
    by_cases h13_1 : b = 1
    · refine V_eqi 1 h13_1 ?_
      refine V_tableIn (pc := 13) (tgt := 63) dX11_of_13 (by decide) (by decide) rfl (by decide) ?_
      refine V_aload_n (pc := 63) dX11_of_63 0 rfl rfl ?_
      refine Mg_cells (pc := 64) dX11_of_64 ?_
      refine V_iload_n (pc := 67) dX11_of_67 1 rfl rfl ?_
      refine Ml_cells (pc := 68) dX11_of_68 (by exact inMach hm h5) ?_
      exact V_iret (pc := 69) dX11_of_69 (Nat.le_of_ble_eq_true rfl) (Nat.le_of_ble_eq_true rfl) (hB _ _ ⟨congrArg (fun z => some (Value.int z)) (by first | rw [if_pos h5]; simp [mOf, *]; done | exact (if_neg h5).symm), by rfl⟩)
    by_cases h13_2 : b = 2
    · refine V_eqi 2 h13_2 ?_
      refine V_tableIn (pc := 13) (tgt := 70) dX11_of_13 (by decide) (by decide) rfl (by decide) ?_
      refine V_aload_n (pc := 70) dX11_of_70 0 rfl rfl ?_
      refine Mg_taps (pc := 71) dX11_of_71 ?_
      refine V_iload_n (pc := 74) dX11_of_74 1 rfl rfl ?_
      refine Ml_taps (pc := 75) dX11_of_75 (by exact inMach hm h5) ?_
      exact V_iret (pc := 76) dX11_of_76 (Nat.le_of_ble_eq_true rfl) (Nat.le_of_ble_eq_true rfl) (hB _ _ ⟨congrArg (fun z => some (Value.int z)) (by first | rw [if_pos h5]; simp [mOf, *]; done | exact (if_neg h5).symm), by rfl⟩)
    by_cases h13_3 : b = 3
    · refine V_eqi 3 h13_3 ?_
      refine V_tableIn (pc := 13) (tgt := 77) dX11_of_13 (by decide) (by decide) rfl (by decide) ?_
      refine V_aload_n (pc := 77) dX11_of_77 0 rfl rfl ?_
      refine Mg_states (pc := 78) dX11_of_78 ?_
      refine V_iload_n (pc := 81) dX11_of_81 1 rfl rfl ?_
      refine Ml_states (pc := 82) dX11_of_82 (by exact inMach hm h5) ?_
      exact V_iret (pc := 83) dX11_of_83 (Nat.le_of_ble_eq_true rfl) (Nat.le_of_ble_eq_true rfl) (hB _ _ ⟨congrArg (fun z => some (Value.int z)) (by first | rw [if_pos h5]; simp [mOf, *]; done | exact (if_neg h5).symm), by rfl⟩)
    by_cases h13_4 : b = 4
    · refine V_eqi 4 h13_4 ?_
      refine V_tableIn (pc := 13) (tgt := 84) dX11_of_13 (by decide) (by decide) rfl (by decide) ?_
      refine V_aload_n (pc := 84) dX11_of_84 0 rfl rfl ?_
      refine Mg_carries (pc := 85) dX11_of_85 ?_
      refine V_iload_n (pc := 88) dX11_of_88 1 rfl rfl ?_
      refine Ml_carries (pc := 89) dX11_of_89 (by exact inMach hm h5) ?_
      exact V_iret (pc := 90) dX11_of_90 (Nat.le_of_ble_eq_true rfl) (Nat.le_of_ble_eq_true rfl) (hB _ _ ⟨congrArg (fun z => some (Value.int z)) (by first | rw [if_pos h5]; simp [mOf, *]; done | exact (if_neg h5).symm), by rfl⟩)
    by_cases h13_5 : b = 5
    · refine V_eqi 5 h13_5 ?_
      refine V_tableIn (pc := 13) (tgt := 91) dX11_of_13 (by decide) (by decide) rfl (by decide) ?_
      refine V_aload_n (pc := 91) dX11_of_91 0 rfl rfl ?_
      refine V_iload_n (pc := 92) dX11_of_92 1 rfl rfl ?_
      refine McVi (pc := 93) dX11_of_93 (cM_made Z _ _ (by exact inMach hm h5)) kM_99 rfl rfl (Nat.le_of_ble_eq_true rfl) (by decide) (by decide) ?_
      exact V_iret (pc := 96) dX11_of_96 (Nat.le_of_ble_eq_true rfl) (Nat.le_of_ble_eq_true rfl) (hB _ _ ⟨congrArg (fun z => some (Value.int z)) (by first | rw [if_pos h5]; simp [mOf, *]; done | exact (if_neg h5).symm), by rfl⟩)
    by_cases h13_6 : b = 6
    · refine V_eqi 6 h13_6 ?_
      refine V_tableIn (pc := 13) (tgt := 97) dX11_of_13 (by decide) (by decide) rfl (by decide) ?_
      refine V_aload_n (pc := 97) dX11_of_97 0 rfl rfl ?_
      refine V_iload_n (pc := 98) dX11_of_98 1 rfl rfl ?_
      refine McVi (pc := 99) dX11_of_99 (cM_links Z _ _ (by exact inMach hm h5)) kM_103 rfl rfl (Nat.le_of_ble_eq_true rfl) (by decide) (by decide) ?_
      exact V_iret (pc := 102) dX11_of_102 (Nat.le_of_ble_eq_true rfl) (Nat.le_of_ble_eq_true rfl) (hB _ _ ⟨congrArg (fun z => some (Value.int z)) (by first | rw [if_pos h5]; simp [mOf, *]; done | exact (if_neg h5).symm), by rfl⟩)
    refine V_tableOut (pc := 13) (tgt := 103) dX11_of_13 (by have a0 := lv_neT h13_0 (a := 0) rfl; have a1 := lv_neT h13_1 (a := 1) rfl; have a2 := lv_neT h13_2 (a := 2) rfl; have a3 := lv_neT h13_3 (a := 3) rfl; have a4 := lv_neT h13_4 (a := 4) rfl; have a5 := lv_neT h13_5 (a := 5) rfl; have a6 := lv_neT h13_6 (a := 6) rfl; omega) (by decide) ?_
    refine V_sipush (v := (-1000)) (pc := 103) dX11_of_103 (by decide) ?_
    exact V_iret (pc := 106) dX11_of_106 (Nat.le_of_ble_eq_true rfl) (Nat.le_of_ble_eq_true rfl) (hB _ _ ⟨congrArg (fun z => some (Value.int z)) (by first | rw [if_pos h5]; simp [mOf, *]; done | exact (if_neg h5).symm), by rfl⟩)
  · skip
    refine V_sipush (v := (-1000)) (pc := 8) dX11_of_8 (by decide) ?_
    exact V_iret (pc := 11) dX11_of_11 (Nat.le_of_ble_eq_true rfl) (Nat.le_of_ble_eq_true rfl) (hB _ _ ⟨congrArg (fun z => some (Value.int z)) (by first | rw [if_pos h5]; simp [mOf, *]; done | exact (if_neg h5).symm), by rfl⟩)
set_option maxHeartbeats 4000000 in
set_option maxRecDepth 100000 in
theorem cM_taken (Z : VZ) (S : MS) (a : Int32) (b : Int32) (hm : mOK S) : CtF MW Z yX11_taken cX11_taken 3 (some .int) 2 0 0 [.ref (Z.2.2.2 99), .int a, .int b] (S) (some (.int (if (0 ≤ a ∧ a ≤ S.1 0 - 1) ∧ (0 ≤ b ∧ b ≤ 5) then (if b = 0 ∨ S.2.2 1 a.toNatClampNeg = b ∨ (S.2.2 1 a.toNatClampNeg = 2 ∧ b = 1) then S.2.2 3 a.toNatClampNeg else -13) else -2))) (S) := by
  refine V_entry (own := RX11) (by decide) rfl (Nat.le_of_ble_eq_true rfl) ?_
  intro B hB
  refine V_sub (L' := [(0, .ref (Z.2.2.2 99)), (1, .int a), (2, .int b)]) [0, 1, 2] rfl ?_
  refine V_aload_n (pc := 0) dX11_taken_0 0 rfl rfl ?_
  refine V_iload_n (pc := 1) dX11_taken_1 1 rfl rfl ?_
  refine McVi (pc := 2) dX11_taken_2 (cM_isMachine Z _ _) kM_86 rfl rfl (Nat.le_of_ble_eq_true rfl) (by decide) (by decide) ?_
  refine V_bif_eq (pc := 5) (tgt := 15) dX11_taken_5 (by decide) (fun h5 => ?_) (fun h5 => ?_)
  · skip
    refine V_bipush (v := (-2)) (pc := 15) dX11_taken_15 (by decide) ?_
    exact V_iret (pc := 17) dX11_taken_17 (Nat.le_of_ble_eq_true rfl) (Nat.le_of_ble_eq_true rfl) (hB _ _ ⟨congrArg (fun z => some (Value.int z)) (by first | exact (if_neg (fun h => h12 h.2)).symm | exact (if_neg (fun h => h5 h.1)).symm), by rfl⟩)
  · skip
    refine V_iload_n (pc := 8) dX11_taken_8 2 rfl rfl ?_
    refine McSi (pc := 9) dX11_taken_9 (cM_isKind Z _ _) kM_74 rfl (Nat.le_of_ble_eq_true rfl) (by decide) (by decide) ?_
    refine V_bif_ne (pc := 12) (tgt := 18) dX11_taken_12 (by decide) (fun h12 => ?_) (fun h12 => ?_)
    · skip
      refine V_aload_n (pc := 18) dX11_taken_18 0 rfl rfl ?_
      refine Mg_kinds (pc := 19) dX11_taken_19 ?_
      refine V_iload_n (pc := 22) dX11_taken_22 1 rfl rfl ?_
      refine Ml_kinds (pc := 23) dX11_taken_23 (by exact inMach hm h5) ?_
      refine V_iload_n (pc := 24) dX11_taken_24 2 rfl rfl ?_
      refine McSi (pc := 25) dX11_taken_25 (cM_isUnder Z _ _ _) kM_106 rfl (Nat.le_of_ble_eq_true rfl) (by decide) (by decide) ?_
      refine V_bif_eq (pc := 28) (tgt := 40) dX11_taken_28 (by decide) (fun h28 => ?_) (fun h28 => ?_)
      · skip
        refine V_bipush (v := (-13)) (pc := 40) dX11_taken_40 (by decide) ?_
        exact V_iret (pc := 42) dX11_taken_42 (Nat.le_of_ble_eq_true rfl) (Nat.le_of_ble_eq_true rfl) (hB _ _ ⟨congrArg (fun z => some (Value.int z)) (by rw [if_pos ⟨h5, h12⟩]; first | exact (if_pos h28).symm | exact (if_neg h28).symm), by rfl⟩)
      · skip
        refine V_aload_n (pc := 31) dX11_taken_31 0 rfl rfl ?_
        refine Mg_taps (pc := 32) dX11_taken_32 ?_
        refine V_iload_n (pc := 35) dX11_taken_35 1 rfl rfl ?_
        refine Ml_taps (pc := 36) dX11_taken_36 (by exact inMach hm h5) ?_
        refine V_goto (pc := 37) (tgt := 42) dX11_taken_37 (by decide) ?_
        exact V_iret (pc := 42) dX11_taken_42 (Nat.le_of_ble_eq_true rfl) (Nat.le_of_ble_eq_true rfl) (hB _ _ ⟨congrArg (fun z => some (Value.int z)) (by rw [if_pos ⟨h5, h12⟩]; first | exact (if_pos h28).symm | exact (if_neg h28).symm), by rfl⟩)
    · skip
      refine V_bipush (v := (-2)) (pc := 15) dX11_taken_15 (by decide) ?_
      exact V_iret (pc := 17) dX11_taken_17 (Nat.le_of_ble_eq_true rfl) (Nat.le_of_ble_eq_true rfl) (hB _ _ ⟨congrArg (fun z => some (Value.int z)) (by first | exact (if_neg (fun h => h12 h.2)).symm | exact (if_neg (fun h => h5 h.1)).symm), by rfl⟩)
