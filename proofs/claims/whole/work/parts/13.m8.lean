/-- what isn't scratch is the same -/
def mCor (S T : MS) : Prop := T.1 0 = S.1 0 ∧ T.1 21 = S.1 21 ∧ T.1 29 = S.1 29 ∧ T.1 30 = S.1 30 ∧ (T.2.2 1 = S.2.2 1 ∧ T.2.2 2 = S.2.2 2 ∧ T.2.2 3 = S.2.2 3 ∧ T.2.2 4 = S.2.2 4 ∧ T.2.2 5 = S.2.2 5) ∧ T.2.2 20 = S.2.2 20 ∧ T.2.2 31 = S.2.2 31 ∧ T.2.2 32 = S.2.2 32 ∧ T.2.2 33 = S.2.2 33 ∧ T.2.2 34 = S.2.2 34
theorem mCor_rfl (S : MS) : mCor S S := ⟨rfl, rfl, rfl, rfl, ⟨rfl, rfl, rfl, rfl, rfl⟩, rfl, rfl, rfl, rfl, rfl⟩
theorem mCor_rd (S : MS) (a : Nat) : mCor S (mRd S a) := ⟨rfl, rfl, rfl, rfl, ⟨rfl, rfl, rfl, rfl, rfl⟩, rfl, rfl, rfl, rfl, rfl⟩
theorem mCor_th {S T : MS} (h : mCor S T) (k c t s y : Int32) : mCor S (mTh T k c t s y) := h
theorem mCor_law {S T : MS} (h : mCor S T) : mCor S (mLaw T) := h
theorem mCor_tells (S : MS) (i : Nat) (n : Int32) (j : Nat) : mCor S (mTells S i n j) := ⟨rfl, rfl, rfl, rfl, ⟨rfl, rfl, rfl, rfl, rfl⟩, rfl, rfl, rfl, rfl, rfl⟩
theorem mCor_sp (S : MS) (a : Nat) (z : Int32) (n : Nat) : mCor S (spS S a z n) := ⟨rfl, rfl, rfl, rfl, ⟨rfl, rfl, rfl, rfl, rfl⟩, rfl, rfl, rfl, rfl, rfl⟩
theorem mTh_mTh (S : MS) (k c t s y k' c' t' s' y' : Int32) : mTh (mTh S k c t s y) k' c' t' s' y' = mTh S k' c' t' s' y' := by
  refine Prod.ext (funext fun j => ?_) rfl
  simp only [mTh]
  repeat' split
  all_goals first | rfl | omega
def lwB (law : Nat → Int32) (n : Nat) : Int64 := it (fun i (b : Int64) => b ||| (law (i + 1)).toInt64 <<< ((nI (i + 1) - 1).toInt64 &&& 63)) n 0
def lnR (S : MS) (b : Int32) : Int64 := if b = 0 then (nI (mBm S (S.1 12).toNatClampNeg).1).toInt64 else if 2 * nI (mBm S (S.1 12).toNatClampNeg).1 ≤ S.1 12 then lwB (mBm S (S.1 12).toNatClampNeg).2.2.1 (mBm S (S.1 12).toNatClampNeg).1 else -1
theorem mBm_le (S : MS) (n : Nat) : (mBm S n).1 ≤ n := (bm_inv (S.2.2 11) (bm0 S) rfl rfl n).1
theorem sz_ex {S : MS} (hs : sOK2 S) {a : Int32} (ha : vp_in a 4) (h0 : ¬ S.2.2 33 a.toNatClampNeg = 0) : ∃ l_ : Nat, S.2.2 33 a.toNatClampNeg = nI l_ ∧ 0 < l_ ∧ l_ ≤ 40 := by
  obtain ⟨n, hn, e⟩ := hs _ (in_cl ha (by decide)).2
  refine ⟨n, e, ?_, hn⟩
  rcases Nat.eq_zero_or_pos n with q | q
  · subst q; exact absurd e h0
  · exact q
theorem sz_le {S : MS} (hs : sOK2 S) {a : Int32} (ha : vp_in a 4) : (S.2.2 33 a.toNatClampNeg).toNatClampNeg ≤ 40 := sOK_in (sOK_ex hs) ha
set_option maxHeartbeats 4000000 in
set_option maxRecDepth 100000 in
theorem cM_lawNow (Z : VZ) (S : MS) (b_ : Int32) (hs : (S.1 12).toNatClampNeg ≤ 40) : CtF MW Z yX11_lawNow cX11_lawNow 6 (some .long) 2 0 0 [.ref (Z.2.2.2 99), .int b_] (S) (some (.long (lnR S b_))) (mLaw S) := by
  refine V_entry (own := RX11) (by decide) rfl (Nat.le_of_ble_eq_true rfl) ?_
  intro B hB
  refine V_sub (L' := [(0, .ref (Z.2.2.2 99)), (1, .int b_)]) [0, 1] rfl ?_
  refine V_aload_n (pc := 0) dX11_lawNow_0 0 rfl rfl ?_
  refine McVi (pc := 1) dX11_lawNow_1 (cM_layLaw Z _ (by exact hs)) kM_229 rfl rfl (Nat.le_of_ble_eq_true rfl) (by decide) (by decide) ?_
  have hl := mBm_le S (S.1 12).toNatClampNeg
  refine V_istore_n (pc := 4) (L2 := [(0, .ref (Z.2.2.2 99)), (1, .int b_)]) dX11_lawNow_4 rfl (by decide) rfl (fun x2_4 ex2_4 => ?_)
  subst ex2_4
  refine V_iload_n (pc := 5) dX11_lawNow_5 2 rfl rfl ?_
  refine V_if_ne (pc := 6) (tgt := 12) dX11_lawNow_6 (by decide) (fun h6 => ?_) (fun h6 => ?_)
  · skip
    refine V_iconst (v := 2) (pc := 12) dX11_lawNow_12 (by decide) ?_
    refine V_iload_n (pc := 13) dX11_lawNow_13 0 rfl rfl ?_
    refine V_imul (pc := 14) dX11_lawNow_14 ?_
    refine V_aload_n (pc := 15) dX11_lawNow_15 1 rfl rfl ?_
    refine Mg_length (pc := 16) (v := (S.1 12)) rfl dX11_lawNow_16 ?_
    refine V_icmp_le (pc := 19) (tgt := 26) dX11_lawNow_19 (by decide) (fun h19 => ?_) (fun h19 => ?_)
    · skip
      refine V_lconst (v := 0) (pc := 26) dX11_lawNow_26 (by decide) ?_
      refine V_lstore_n (pc := 27) (L2 := [(2, .int (nI (mBm S (S.1 12).toNatClampNeg).1)), (0, .ref (Z.2.2.2 99)), (1, .int b_)]) dX11_lawNow_27 rfl (by decide) rfl (fun x3_27 ex3_27 => ?_)
      subst ex3_27
      refine V_iconst (v := 1) (pc := 28) dX11_lawNow_28 (by decide) ?_
      refine V_istore (pc := 29) (L2 := [(3, .long 0), (2, .int (nI (mBm S (S.1 12).toNatClampNeg).1)), (0, .ref (Z.2.2.2 99)), (1, .int b_)]) dX11_lawNow_29 (by decide) rfl (fun x5_29 ex5_29 => ?_)
      subst ex5_29
      refine V_sub (L' := [(5, .int (nI 1)), (3, .long 0), (2, .int (nI (mBm S (S.1 12).toNatClampNeg).1)), (0, .ref (Z.2.2.2 99)), (1, .int b_)]) [0, 1, 2, 3, 4] rfl ?_
      refine Vloop (σ := Nat × Int64) (fun x => 1 ≤ (x.1) ∧ (x.1) ≤ (mBm S (S.1 12).toNatClampNeg).1 + 1 ∧ (x.2) = lwB (mBm S (S.1 12).toNatClampNeg).2.2.1 ((x.1) - 1)) (fun x => 42 - (x.1)) (fun x => V MW Z cX11_lawNow RX11 6 (some .long) 2 0 0 B 0 0 31 [(5, .int (nI (x.1))), (3, .long (x.2)), (2, .int (nI (mBm S (S.1 12).toNatClampNeg).1)), (0, .ref (Z.2.2.2 99)), (1, .int b_)] [] (mLaw S)) ?_ (1, 0) (by exact ⟨Nat.le_refl _, by omega, rfl⟩)
      rintro ⟨j, u⟩ hI31 ih31
      have hI31 : 1 ≤ j ∧ j ≤ (mBm S (S.1 12).toNatClampNeg).1 + 1 ∧ u = lwB (mBm S (S.1 12).toNatClampNeg).2.2.1 (j - 1) := hI31
      show V MW Z cX11_lawNow RX11 6 (some .long) 2 0 0 B 0 0 31 [(5, .int (nI j)), (3, .long u), (2, .int (nI (mBm S (S.1 12).toNatClampNeg).1)), (0, .ref (Z.2.2.2 99)), (1, .int b_)] [] (mLaw S)
      refine V_iload (pc := 31) dX11_lawNow_31 0 rfl ?_
      refine V_iload_n (pc := 33) dX11_lawNow_33 2 rfl rfl ?_
      refine V_icmp_gt (pc := 34) (tgt := 59) dX11_lawNow_34 (by decide) (fun h34 => ?_) (fun h34 => ?_)
      · skip
        have hj : (mBm S (S.1 12).toNatClampNeg).1 < j := jgt (by omega) (by omega) h34
        have ej : j - 1 = (mBm S (S.1 12).toNatClampNeg).1 := by omega
        refine V_lload_n (pc := 59) dX11_lawNow_59 1 rfl rfl ?_
        exact V_lret (pc := 60) dX11_lawNow_60 (Nat.le_of_ble_eq_true rfl) (Nat.le_of_ble_eq_true rfl) (hB _ _ ⟨congrArg (fun z => some (Value.long z)) (by rw [hI31.2.2, ej]; simp [lnR, h6, h19]), by rfl⟩)
      · skip
        have hj : j ≤ (mBm S (S.1 12).toNatClampNeg).1 := jngt (by omega) (by omega) h34
        refine V_lload_n (pc := 37) dX11_lawNow_37 1 rfl rfl ?_
        refine V_aload_n (pc := 38) dX11_lawNow_38 3 rfl rfl ?_
        refine Mg_law (pc := 39) dX11_lawNow_39 ?_
        refine V_iload (pc := 42) dX11_lawNow_42 0 rfl ?_
        refine Ml_law (pc := 44) dX11_lawNow_44 (by exact vp_in_nI (by omega) (by decide)) ?_
        refine V_i2l (pc := 45) dX11_lawNow_45 rfl ?_
        refine V_iload (pc := 46) dX11_lawNow_46 0 rfl ?_
        refine V_iconst (v := 1) (pc := 48) dX11_lawNow_48 (by decide) ?_
        refine V_isub (pc := 49) dX11_lawNow_49 ?_
        refine V_lshl (pc := 50) dX11_lawNow_50 rfl ?_
        refine V_lor (pc := 51) dX11_lawNow_51 ?_
        refine V_lstore_n (pc := 52) (L2 := [(5, .int (nI j)), (2, .int (nI (mBm S (S.1 12).toNatClampNeg).1)), (0, .ref (Z.2.2.2 99)), (1, .int b_)]) dX11_lawNow_52 rfl (by decide) rfl (fun x3_52 ex3_52 => ?_)
        refine V_iinc (pc := 53) (v := 1) (L2 := [(3, .long x3_52), (2, .int (nI (mBm S (S.1 12).toNatClampNeg).1)), (0, .ref (Z.2.2.2 99)), (1, .int b_)]) dX11_lawNow_53 1 rfl (by decide) (by decide) rfl (fun x5_53 ex5_53 => ?_)
        rw [nI_1] at ex5_53
        subst ex5_53
        refine V_goto (pc := 56) (tgt := 31) dX11_lawNow_56 (by decide) ?_
        refine V_sub (L' := [(5, .int (nI (j + 1))), (3, .long x3_52), (2, .int (nI (mBm S (S.1 12).toNatClampNeg).1)), (0, .ref (Z.2.2.2 99)), (1, .int b_)]) [0, 1, 2, 3, 4] rfl ?_
        refine ih31 (((j + 1)), _) ?_ ?_
        · show 1 ≤ ((j + 1)) ∧ ((j + 1)) ≤ (mBm S (S.1 12).toNatClampNeg).1 + 1 ∧ (x3_52) = lwB (mBm S (S.1 12).toNatClampNeg).2.2.1 (((j + 1)) - 1)
          refine ⟨by omega, by omega, ?_⟩
          obtain ⟨a1, a2, a3⟩ := hI31
          obtain ⟨i_, rfl⟩ : ∃ i_, j = i_ + 1 := ⟨j - 1, by omega⟩
          show x3_52 = _
          rw [← ex3_52, a3]
          rw [nI_clamp (by omega)]
          rfl
        · show 42 - (j + 1) < 42 - j
          omega
    · skip
      refine V_ldc2 (pc := 22) dX11_lawNow_22 tw_1114 ?_
      exact V_lret (pc := 25) dX11_lawNow_25 (Nat.le_of_ble_eq_true rfl) (Nat.le_of_ble_eq_true rfl) (hB _ _ ⟨congrArg (fun z => some (Value.long z)) (by simp [lnR, h6, h19]), by rfl⟩)
  · skip
    refine V_iload_n (pc := 9) dX11_lawNow_9 0 rfl rfl ?_
    refine V_i2l (pc := 10) dX11_lawNow_10 rfl ?_
    exact V_lret (pc := 11) dX11_lawNow_11 (Nat.le_of_ble_eq_true rfl) (Nat.le_of_ble_eq_true rfl) (hB _ _ ⟨congrArg (fun z => some (Value.long z)) (by simp [lnR, h6]), by rfl⟩)
set_option maxHeartbeats 4000000 in
set_option maxRecDepth 100000 in
theorem cM_linear (Z : VZ) (S : MS) (a_ : Int32) (b_ : Int32) (hs : sOK2 S) : CtF MW Z yX11_linear cX11_linear 3 (some .long) 3 0 0 [.ref (Z.2.2.2 99), .int a_, .int b_] (S) (some (.long (if (((0 ≤ a_ ∧ a_ ≤ 3) ∧ ¬ S.2.2 32 a_.toNatClampNeg < 0) ∧ (0 ≤ b_ ∧ b_ ≤ 1)) then lnR (mRd S a_.toNatClampNeg) b_ else -9223372036854775808))) (if (((0 ≤ a_ ∧ a_ ≤ 3) ∧ ¬ S.2.2 32 a_.toNatClampNeg < 0) ∧ (0 ≤ b_ ∧ b_ ≤ 1)) then mLaw (mRd S a_.toNatClampNeg) else S) := by
  refine V_entry (own := RX11) (by decide) rfl (Nat.le_of_ble_eq_true rfl) ?_
  intro B hB
  refine V_sub (L' := [(0, .ref (Z.2.2.2 99)), (1, .int a_), (2, .int b_)]) [0, 1, 2] rfl ?_
  refine V_aload_n (pc := 0) dX11_linear_0 0 rfl rfl ?_
  refine V_iload_n (pc := 1) dX11_linear_1 1 rfl rfl ?_
  refine McVi (pc := 2) dX11_linear_2 (cM_isThere Z _ _) kM_160 rfl rfl (Nat.le_of_ble_eq_true rfl) (by decide) (by decide) ?_
  refine V_bif_eq (pc := 5) (tgt := 17) dX11_linear_5 (by decide) (fun h5 => ?_) (fun h5 => ?_)
  · skip
    refine V_ldc2 (pc := 17) dX11_linear_17 tw_1083 ?_
    exact V_lret (pc := 20) dX11_linear_20 (Nat.le_of_ble_eq_true rfl) (Nat.le_of_ble_eq_true rfl) (hB _ _ ⟨congrArg (fun z => some (Value.long z)) (by exact (if_neg (fun h => h5 h.1)).symm), by exact (if_neg (fun h => h5 h.1)).symm⟩)
  · skip
    refine V_iload_n (pc := 8) dX11_linear_8 2 rfl rfl ?_
    refine V_iconst (v := 0) (pc := 9) dX11_linear_9 (by decide) ?_
    refine V_iconst (v := 1) (pc := 10) dX11_linear_10 (by decide) ?_
    refine McSi (pc := 11) dX11_linear_11 (cM_in Z _ _ _ _) kM_70 rfl (Nat.le_of_ble_eq_true rfl) (by decide) (by decide) ?_
    refine V_bif_ne (pc := 14) (tgt := 21) dX11_linear_14 (by decide) (fun h14 => ?_) (fun h14 => ?_)
    · skip
      refine V_aload_n (pc := 21) dX11_linear_21 0 rfl rfl ?_
      refine V_iload_n (pc := 22) dX11_linear_22 1 rfl rfl ?_
      refine McVv (pc := 23) dX11_linear_23 (cM_reads Z _ _ (by exact inSh h5.1) (by exact sz_le hs (inSh h5.1))) kM_165 rfl rfl (Nat.le_of_ble_eq_true rfl) (by decide) (by decide) ?_
      refine V_aload_n (pc := 26) dX11_linear_26 0 rfl rfl ?_
      refine V_iload_n (pc := 27) dX11_linear_27 2 rfl rfl ?_
      refine McVl (pc := 28) dX11_linear_28 (cM_lawNow Z _ _ (by exact sz_le hs (inSh h5.1))) kM_232 rfl rfl (Nat.le_of_ble_eq_true rfl) (by decide) (by decide) ?_
      exact V_lret (pc := 31) dX11_linear_31 (Nat.le_of_ble_eq_true rfl) (Nat.le_of_ble_eq_true rfl) (hB _ _ ⟨congrArg (fun z => some (Value.long z)) (by rw [if_pos ⟨h5, h14⟩]), by rw [if_pos ⟨h5, h14⟩]⟩)
    · skip
      refine V_ldc2 (pc := 17) dX11_linear_17 tw_1083 ?_
      exact V_lret (pc := 20) dX11_linear_20 (Nat.le_of_ble_eq_true rfl) (Nat.le_of_ble_eq_true rfl) (hB _ _ ⟨congrArg (fun z => some (Value.long z)) (by exact (if_neg (fun h => h14 h.2)).symm), by exact (if_neg (fun h => h14 h.2)).symm⟩)
set_option maxHeartbeats 4000000 in
set_option maxRecDepth 100000 in
theorem cM_twin (Z : VZ) (S : MS) (a_ : Int32) (n_ : Int32) (b_ : Int32) (hm : mOK S) : CtF MW Z yX11_twin cX11_twin 4 (some .long) 4 0 0 [.ref (Z.2.2.2 99), .int a_, .int n_, .int b_] (S) (some (.long (if ((0 ≤ a_ ∧ a_ ≤ S.1 0 - 1) ∧ (0 ≤ n_ ∧ n_ ≤ 40) ∧ (0 ≤ b_ ∧ b_ ≤ 1)) then lnR (mTells S a_.toNatClampNeg n_ n_.toNatClampNeg) b_ else -9223372036854775808))) (if ((0 ≤ a_ ∧ a_ ≤ S.1 0 - 1) ∧ (0 ≤ n_ ∧ n_ ≤ 40) ∧ (0 ≤ b_ ∧ b_ ≤ 1)) then mLaw (mTells S a_.toNatClampNeg n_ n_.toNatClampNeg) else S) := by
  refine V_entry (own := RX11) (by decide) rfl (Nat.le_of_ble_eq_true rfl) ?_
  intro B hB
  refine V_sub (L' := [(0, .ref (Z.2.2.2 99)), (1, .int a_), (2, .int n_), (3, .int b_)]) [0, 1, 2, 3] rfl ?_
  refine V_aload_n (pc := 0) dX11_twin_0 0 rfl rfl ?_
  refine V_iload_n (pc := 1) dX11_twin_1 1 rfl rfl ?_
  refine McVi (pc := 2) dX11_twin_2 (cM_isMachine Z _ _) kM_86 rfl rfl (Nat.le_of_ble_eq_true rfl) (by decide) (by decide) ?_
  refine V_bif_eq (pc := 5) (tgt := 27) dX11_twin_5 (by decide) (fun h5 => ?_) (fun h5 => ?_)
  · skip
    refine V_ldc2 (pc := 27) dX11_twin_27 tw_1083 ?_
    exact V_lret (pc := 30) dX11_twin_30 (Nat.le_of_ble_eq_true rfl) (Nat.le_of_ble_eq_true rfl) (hB _ _ ⟨congrArg (fun z => some (Value.long z)) (by exact (if_neg (fun h => h5 h.1)).symm), by exact (if_neg (fun h => h5 h.1)).symm⟩)
  · skip
    refine V_iload_n (pc := 8) dX11_twin_8 2 rfl rfl ?_
    refine V_iconst (v := 0) (pc := 9) dX11_twin_9 (by decide) ?_
    refine V_bipush (v := 40) (pc := 10) dX11_twin_10 (by decide) ?_
    refine McSi (pc := 12) dX11_twin_12 (cM_in Z _ _ _ _) kM_70 rfl (Nat.le_of_ble_eq_true rfl) (by decide) (by decide) ?_
    refine V_bif_eq (pc := 15) (tgt := 27) dX11_twin_15 (by decide) (fun h15 => ?_) (fun h15 => ?_)
    · skip
      refine V_ldc2 (pc := 27) dX11_twin_27 tw_1083 ?_
      exact V_lret (pc := 30) dX11_twin_30 (Nat.le_of_ble_eq_true rfl) (Nat.le_of_ble_eq_true rfl) (hB _ _ ⟨congrArg (fun z => some (Value.long z)) (by exact (if_neg (fun h => h15 h.2.1)).symm), by exact (if_neg (fun h => h15 h.2.1)).symm⟩)
    · skip
      refine V_iload_n (pc := 18) dX11_twin_18 3 rfl rfl ?_
      refine V_iconst (v := 0) (pc := 19) dX11_twin_19 (by decide) ?_
      refine V_iconst (v := 1) (pc := 20) dX11_twin_20 (by decide) ?_
      refine McSi (pc := 21) dX11_twin_21 (cM_in Z _ _ _ _) kM_70 rfl (Nat.le_of_ble_eq_true rfl) (by decide) (by decide) ?_
      refine V_bif_ne (pc := 24) (tgt := 31) dX11_twin_24 (by decide) (fun h24 => ?_) (fun h24 => ?_)
      · skip
        refine V_aload_n (pc := 31) dX11_twin_31 0 rfl rfl ?_
        refine V_iload_n (pc := 32) dX11_twin_32 1 rfl rfl ?_
        refine V_iload_n (pc := 33) dX11_twin_33 2 rfl rfl ?_
        refine McVv (pc := 34) dX11_twin_34 (cM_tells Z _ _ _ (by exact inMach hm h5) (by exact in40 h15)) kM_153 rfl rfl (Nat.le_of_ble_eq_true rfl) (by decide) (by decide) ?_
        refine V_aload_n (pc := 37) dX11_twin_37 0 rfl rfl ?_
        refine V_iload_n (pc := 38) dX11_twin_38 3 rfl rfl ?_
        refine McVl (pc := 39) dX11_twin_39 (cM_lawNow Z _ _ (by exact in40 h15)) kM_232 rfl rfl (Nat.le_of_ble_eq_true rfl) (by decide) (by decide) ?_
        exact V_lret (pc := 42) dX11_twin_42 (Nat.le_of_ble_eq_true rfl) (Nat.le_of_ble_eq_true rfl) (hB _ _ ⟨congrArg (fun z => some (Value.long z)) (by rw [if_pos ⟨h5, h15, h24⟩]), by rw [if_pos ⟨h5, h15, h24⟩]⟩)
      · skip
        refine V_ldc2 (pc := 27) dX11_twin_27 tw_1083 ?_
        exact V_lret (pc := 30) dX11_twin_30 (Nat.le_of_ble_eq_true rfl) (Nat.le_of_ble_eq_true rfl) (hB _ _ ⟨congrArg (fun z => some (Value.long z)) (by exact (if_neg (fun h => h24 h.2.2)).symm), by exact (if_neg (fun h => h24 h.2.2)).symm⟩)
set_option maxHeartbeats 4000000 in
set_option maxRecDepth 100000 in
theorem cM_drawn (Z : VZ) (S : MS) (a_ : Int32) (z_ : Int32) (n_ : Int32) (hs : sOK2 S) : CtF MW Z yX11_drawn cX11_drawn 4 (some .int) 2 0 0 [.ref (Z.2.2.2 99), .int a_, .int z_, .int n_] (S) (some (.int (if ((0 ≤ a_ ∧ a_ ≤ 3) ∧ (0 ≤ n_ ∧ n_ ≤ 8)) then (if 0 ≤ S.2.2 32 a_.toNatClampNeg then (if S.2.2 33 a_.toNatClampNeg = 0 then -3 else nI (mBm (spS S a_.toNatClampNeg z_ n_.toNatClampNeg) (S.2.2 33 a_.toNatClampNeg).toNatClampNeg).1) else -11) else -2))) (if ((0 ≤ a_ ∧ a_ ≤ 3) ∧ (0 ≤ n_ ∧ n_ ≤ 8)) ∧ 0 ≤ S.2.2 32 a_.toNatClampNeg ∧ ¬ S.2.2 33 a_.toNatClampNeg = 0 then mLaw (spS S a_.toNatClampNeg z_ n_.toNatClampNeg) else S) := by
  refine V_entry (own := RX11) (by decide) rfl (Nat.le_of_ble_eq_true rfl) ?_
  intro B hB
  refine V_sub (L' := [(0, .ref (Z.2.2.2 99)), (1, .int a_), (2, .int z_), (3, .int n_)]) [0, 1, 2, 3] rfl ?_
  refine V_iload_n (pc := 0) dX11_drawn_0 1 rfl rfl ?_
  refine McSi (pc := 1) dX11_drawn_1 (cM_isSheet Z _ _) kM_150 rfl (Nat.le_of_ble_eq_true rfl) (by decide) (by decide) ?_
  refine V_bif_eq (pc := 4) (tgt := 17) dX11_drawn_4 (by decide) (fun h4 => ?_) (fun h4 => ?_)
  · skip
    refine V_bipush (v := (-2)) (pc := 17) dX11_drawn_17 (by decide) ?_
    exact V_iret (pc := 19) dX11_drawn_19 (Nat.le_of_ble_eq_true rfl) (Nat.le_of_ble_eq_true rfl) (hB _ _ ⟨congrArg (fun z => some (Value.int z)) (by exact (if_neg (fun h => h4 h.1)).symm), by exact (if_neg (fun h => h4 h.1.1)).symm⟩)
  · skip
    refine V_iload_n (pc := 7) dX11_drawn_7 3 rfl rfl ?_
    refine V_iconst (v := 0) (pc := 8) dX11_drawn_8 (by decide) ?_
    refine V_bipush (v := 8) (pc := 9) dX11_drawn_9 (by decide) ?_
    refine McSi (pc := 11) dX11_drawn_11 (cM_in Z _ _ _ _) kM_70 rfl (Nat.le_of_ble_eq_true rfl) (by decide) (by decide) ?_
    refine V_bif_ne (pc := 14) (tgt := 20) dX11_drawn_14 (by decide) (fun h14 => ?_) (fun h14 => ?_)
    · skip
      refine V_aload_n (pc := 20) dX11_drawn_20 0 rfl rfl ?_
      refine Mg_sorts (pc := 21) dX11_drawn_21 ?_
      refine V_iload_n (pc := 24) dX11_drawn_24 1 rfl rfl ?_
      refine Ml_sorts (pc := 25) dX11_drawn_25 (by exact inSh h4) ?_
      refine V_if_ge (pc := 26) (tgt := 32) dX11_drawn_26 (by decide) (fun h26 => ?_) (fun h26 => ?_)
      · skip
        refine V_aload_n (pc := 32) dX11_drawn_32 0 rfl rfl ?_
        refine Mg_sizes (pc := 33) dX11_drawn_33 ?_
        refine V_iload_n (pc := 36) dX11_drawn_36 1 rfl rfl ?_
        refine Ml_sizes (pc := 37) dX11_drawn_37 (by exact inSh h4) ?_
        refine V_if_ne (pc := 38) (tgt := 44) dX11_drawn_38 (by decide) (fun h38 => ?_) (fun h38 => ?_)
        · skip
          refine V_aload_n (pc := 44) dX11_drawn_44 0 rfl rfl ?_
          refine V_iload_n (pc := 45) dX11_drawn_45 1 rfl rfl ?_
          refine V_iload_n (pc := 46) dX11_drawn_46 2 rfl rfl ?_
          refine V_iload_n (pc := 47) dX11_drawn_47 3 rfl rfl ?_
          refine McVv (pc := 48) dX11_drawn_48 (cM_spoils Z _ _ _ _ (by exact inSh h4) (by exact sz_ex hs (inSh h4) h38)) kM_249 rfl rfl (Nat.le_of_ble_eq_true rfl) (by decide) (by decide) ?_
          refine V_aload_n (pc := 51) dX11_drawn_51 0 rfl rfl ?_
          refine McVi (pc := 52) dX11_drawn_52 (cM_layLaw Z _ (by exact sz_le hs (inSh h4))) kM_229 rfl rfl (Nat.le_of_ble_eq_true rfl) (by decide) (by decide) ?_
          exact V_iret (pc := 55) dX11_drawn_55 (Nat.le_of_ble_eq_true rfl) (Nat.le_of_ble_eq_true rfl) (hB _ _ ⟨congrArg (fun z => some (Value.int z)) (by rw [if_pos ⟨h4, h14⟩, if_pos h26, if_neg h38]; rfl), by rw [if_pos ⟨⟨h4, h14⟩, h26, h38⟩]⟩)
        · skip
          refine V_bipush (v := (-3)) (pc := 41) dX11_drawn_41 (by decide) ?_
          exact V_iret (pc := 43) dX11_drawn_43 (Nat.le_of_ble_eq_true rfl) (Nat.le_of_ble_eq_true rfl) (hB _ _ ⟨congrArg (fun z => some (Value.int z)) (by rw [if_pos ⟨h4, h14⟩, if_pos h26, if_pos h38]), by exact (if_neg (fun h => h.2.2 h38)).symm⟩)
      · skip
        refine V_bipush (v := (-11)) (pc := 29) dX11_drawn_29 (by decide) ?_
        exact V_iret (pc := 31) dX11_drawn_31 (Nat.le_of_ble_eq_true rfl) (Nat.le_of_ble_eq_true rfl) (hB _ _ ⟨congrArg (fun z => some (Value.int z)) (by rw [if_pos ⟨h4, h14⟩, if_neg h26]), by exact (if_neg (fun h => h26 h.2.1)).symm⟩)
    · skip
      refine V_bipush (v := (-2)) (pc := 17) dX11_drawn_17 (by decide) ?_
      exact V_iret (pc := 19) dX11_drawn_19 (Nat.le_of_ble_eq_true rfl) (Nat.le_of_ble_eq_true rfl) (hB _ _ ⟨congrArg (fun z => some (Value.int z)) (by exact (if_neg (fun h => h14 h.2)).symm), by exact (if_neg (fun h => h14 h.1.2)).symm⟩)
