def zOK (S : XS) : Prop := ∀ i, i < 4 → ∃ n : Nat, n ≤ 40 ∧ S.1 (20 + i) = nI n
theorem zOK_le {S : XS} (h : zOK S) {i : Nat} (hi : i < 4) : (S.1 (20 + i)).toNatClampNeg ≤ 40 := by
  obtain ⟨n, hn, e⟩ := h i hi
  rw [e, nI_clamp (by omega)]
  exact hn
def bhd (x q : Int64) : Int64 := (x - (x &&& 1) * q) >>> (Int32.toInt64 1 &&& 63)
def fdQ (p q : Int64) (j : Nat) : Int64 := it (fun _ x => bhd x q) j p
def fdB (p q : Int64) (j : Nat) : Int64 := it (fun i (b : Int64) => b ||| (fdQ p q i &&& 1) <<< ((nI i).toInt64 &&& 63)) j 0
def ttG (f : Nat → Int64) (e : Int32) (x : Int32) (j : Nat) : Int32 := it (fun i a => if e >>> (nI i &&& 31) &&& 1 = 1 then a + (((f i).toUInt64 >>> (x.toInt64.toUInt64 &&& Int64.toUInt64 63)).toInt64 &&& 1).toInt32 else a) j 0
set_option maxHeartbeats 4000000 in
set_option maxRecDepth 100000 in
theorem c_X10_isFraction (Z : VZ) (S : XS) (a_ : Int32) (b_ : Int32) : CtF XW Z yX10_isFraction cX10_isFraction 2 (some .boolean) 1 0 0 [.int a_, .int b_] (S) (some (.int (bI ((-9999 ≤ a_ ∧ a_ ≤ 9999) ∧ (1 ≤ b_ ∧ b_ ≤ 9999))))) (S) := by
  refine V_entry (own := RX10) (by decide) rfl (Nat.le_of_ble_eq_true rfl) ?_
  intro B hB
  refine V_sub (L' := [(0, .int a_), (1, .int b_)]) [0, 1] rfl ?_
  refine V_iload_n (pc := 0) dX10_isFraction_0 0 rfl rfl ?_
  refine V_sipush (v := (-9999)) (pc := 1) dX10_isFraction_1 (by decide) ?_
  refine V_sipush (v := 9999) (pc := 4) dX10_isFraction_4 (by decide) ?_
  refine V_callSi (pc := 7) dX10_isFraction_7 (c_X10_between Z _ _ _ _) kX10_60 rfl (Nat.le_of_ble_eq_true rfl) (by decide) (by decide) (Nat.le_of_ble_eq_true rfl) (Nat.le_of_ble_eq_true rfl) ?_
  refine V_bif_eq (pc := 10) (tgt := 28) dX10_isFraction_10 (by decide) (fun h10 => ?_) (fun h10 => ?_)
  · skip
    refine V_iconst (v := 0) (pc := 28) dX10_isFraction_28 (by decide) ?_
    exact V_zret (pc := 29) dX10_isFraction_29 (Nat.le_of_ble_eq_true rfl) (Nat.le_of_ble_eq_true rfl) (Or.inl rfl) (hB _ _ ⟨congrArg (fun z => some (Value.int z)) (by first | exact (bI_t (by first | (clear hB; simp_all [Int32.not_le, Int32.not_lt]; done) | (clear hB; simp only [Int32.not_le, Int32.not_lt, Int32.lt_iff_toInt_lt, Int32.le_iff_toInt_le] at *; omega))).symm | exact (bI_f (by first | (clear hB; simp_all [Int32.not_le, Int32.not_lt]; done) | (clear hB; simp only [Int32.not_le, Int32.not_lt, Int32.lt_iff_toInt_lt, Int32.le_iff_toInt_le] at *; omega))).symm | rfl), by rfl⟩)
  · skip
    refine V_iload_n (pc := 13) dX10_isFraction_13 1 rfl rfl ?_
    refine V_iconst (v := 1) (pc := 14) dX10_isFraction_14 (by decide) ?_
    refine V_sipush (v := 9999) (pc := 15) dX10_isFraction_15 (by decide) ?_
    refine V_callSi (pc := 18) dX10_isFraction_18 (c_X10_between Z _ _ _ _) kX10_60 rfl (Nat.le_of_ble_eq_true rfl) (by decide) (by decide) (Nat.le_of_ble_eq_true rfl) (Nat.le_of_ble_eq_true rfl) ?_
    refine V_bif_eq (pc := 21) (tgt := 28) dX10_isFraction_21 (by decide) (fun h21 => ?_) (fun h21 => ?_)
    · skip
      refine V_iconst (v := 0) (pc := 28) dX10_isFraction_28 (by decide) ?_
      exact V_zret (pc := 29) dX10_isFraction_29 (Nat.le_of_ble_eq_true rfl) (Nat.le_of_ble_eq_true rfl) (Or.inl rfl) (hB _ _ ⟨congrArg (fun z => some (Value.int z)) (by first | exact (bI_t (by first | (clear hB; simp_all [Int32.not_le, Int32.not_lt]; done) | (clear hB; simp only [Int32.not_le, Int32.not_lt, Int32.lt_iff_toInt_lt, Int32.le_iff_toInt_le] at *; omega))).symm | exact (bI_f (by first | (clear hB; simp_all [Int32.not_le, Int32.not_lt]; done) | (clear hB; simp only [Int32.not_le, Int32.not_lt, Int32.lt_iff_toInt_lt, Int32.le_iff_toInt_le] at *; omega))).symm | rfl), by rfl⟩)
    · skip
      refine V_iconst (v := 1) (pc := 24) dX10_isFraction_24 (by decide) ?_
      refine V_goto (pc := 25) (tgt := 29) dX10_isFraction_25 (by decide) ?_
      exact V_zret (pc := 29) dX10_isFraction_29 (Nat.le_of_ble_eq_true rfl) (Nat.le_of_ble_eq_true rfl) (Or.inr rfl) (hB _ _ ⟨congrArg (fun z => some (Value.int z)) (by first | exact (bI_t (by first | (clear hB; simp_all [Int32.not_le, Int32.not_lt]; done) | (clear hB; simp only [Int32.not_le, Int32.not_lt, Int32.lt_iff_toInt_lt, Int32.le_iff_toInt_le] at *; omega))).symm | exact (bI_f (by first | (clear hB; simp_all [Int32.not_le, Int32.not_lt]; done) | (clear hB; simp only [Int32.not_le, Int32.not_lt, Int32.lt_iff_toInt_lt, Int32.le_iff_toInt_le] at *; omega))).symm | rfl), by rfl⟩)
set_option maxHeartbeats 4000000 in
set_option maxRecDepth 100000 in
theorem c_X10_behindDigit (Z : VZ) (S : XS) (x_ : Int64) (q_ : Int64) : CtF XW Z yX10_behindDigit cX10_behindDigit 4 (some .long) 0 0 0 [.long x_, .long q_] (S) (some (.long (bhd x_ q_))) (S) := by
  refine V_entry (own := RX10) (by decide) rfl (Nat.le_of_ble_eq_true rfl) ?_
  intro B hB
  refine V_sub (L' := [(0, .long x_), (2, .long q_)]) [0, 1] rfl ?_
  refine V_lload_n (pc := 0) dX10_behindDigit_0 0 rfl rfl ?_
  refine V_lload_n (pc := 1) dX10_behindDigit_1 0 rfl rfl ?_
  refine V_lconst (v := 1) (pc := 2) dX10_behindDigit_2 (by decide) ?_
  refine V_land (pc := 3) dX10_behindDigit_3 ?_
  refine V_lload_n (pc := 4) dX10_behindDigit_4 1 rfl rfl ?_
  refine V_lmul (pc := 5) dX10_behindDigit_5 ?_
  refine V_lsub (pc := 6) dX10_behindDigit_6 ?_
  refine V_iconst (v := 1) (pc := 7) dX10_behindDigit_7 (by decide) ?_
  refine V_lshr (pc := 8) dX10_behindDigit_8 rfl ?_
  exact V_lret (pc := 9) dX10_behindDigit_9 (Nat.le_of_ble_eq_true rfl) (Nat.le_of_ble_eq_true rfl) (hB _ _ ⟨congrArg (fun z => some (Value.long z)) (by first | rfl | assumption | (simp_all; done)), by rfl⟩)
set_option maxHeartbeats 4000000 in
set_option maxRecDepth 100000 in
theorem c_X10_firstDigits (Z : VZ) (S : XS) (p_ : Int64) (q_ : Int64) (n_ : Int32) : CtF XW Z yX10_firstDigits cX10_firstDigits 10 (some .long) 1 0 0 [.long p_, .long q_, .int n_] (S) (some (.long (fdB p_ q_ n_.toNatClampNeg))) (S) := by
  refine V_entry (own := RX10) (by decide) rfl (Nat.le_of_ble_eq_true rfl) ?_
  intro B hB
  refine V_sub (L' := [(0, .long p_), (2, .long q_), (4, .int n_)]) [0, 1, 2] rfl ?_
  refine V_lconst (v := 0) (pc := 0) dX10_firstDigits_0 (by decide) ?_
  refine V_lstore (pc := 1) (L2 := [(0, .long p_), (2, .long q_), (4, .int n_)]) dX10_firstDigits_1 (by decide) rfl (fun x5_1 ex5_1 => ?_)
  subst ex5_1
  refine V_lload_n (pc := 3) dX10_firstDigits_3 1 rfl rfl ?_
  refine V_lstore (pc := 4) (L2 := [(5, .long 0), (0, .long p_), (2, .long q_), (4, .int n_)]) dX10_firstDigits_4 (by decide) rfl (fun x7_4 ex7_4 => ?_)
  subst ex7_4
  refine V_iconst (v := 0) (pc := 6) dX10_firstDigits_6 (by decide) ?_
  refine V_istore (pc := 7) (L2 := [(7, .long p_), (5, .long 0), (0, .long p_), (2, .long q_), (4, .int n_)]) dX10_firstDigits_7 (by decide) rfl (fun x9_7 ex9_7 => ?_)
  subst ex9_7
  refine V_sub (L' := [(9, .int (nI 0)), (7, .long p_), (5, .long 0), (0, .long p_), (2, .long q_), (4, .int n_)]) [0, 1, 2, 3, 4, 5] rfl ?_
  refine Vloop (σ := Nat × Int64 × Int64) (fun x => (x.1) ≤ n_.toNatClampNeg ∧ (x.2.2) = fdB p_ q_ (x.1) ∧ (x.2.1) = fdQ p_ q_ (x.1)) (fun x => n_.toNatClampNeg - (x.1)) (fun x => V XW Z cX10_firstDigits RX10 10 (some .long) 1 0 0 B 0 0 9 [(9, .int (nI (x.1))), (7, .long (x.2.1)), (5, .long (x.2.2)), (0, .long p_), (2, .long q_), (4, .int n_)] [] (S)) ?_ (0, p_, 0) (by exact ⟨Nat.zero_le _, rfl, rfl⟩)
  rintro ⟨j, w_, u⟩ hI9 ih9
  have hI9 : j ≤ n_.toNatClampNeg ∧ u = fdB p_ q_ j ∧ w_ = fdQ p_ q_ j := hI9
  show V XW Z cX10_firstDigits RX10 10 (some .long) 1 0 0 B 0 0 9 [(9, .int (nI j)), (7, .long w_), (5, .long u), (0, .long p_), (2, .long q_), (4, .int n_)] [] (S)
  refine V_iload (pc := 9) dX10_firstDigits_9 0 rfl ?_
  refine V_iload (pc := 11) dX10_firstDigits_11 5 rfl ?_
  refine V_icmp_ge (pc := 13) (tgt := 42) dX10_firstDigits_13 (by decide) (fun h13 => ?_) (fun h13 => ?_)
  · skip
    have hj : n_.toNatClampNeg ≤ j := jge h13 (Nat.lt_of_le_of_lt hI9.1 (clampLt _))
    have ej : j = n_.toNatClampNeg := Nat.le_antisymm hI9.1 hj
    refine V_lload (pc := 42) dX10_firstDigits_42 2 rfl ?_
    exact V_lret (pc := 44) dX10_firstDigits_44 (Nat.le_of_ble_eq_true rfl) (Nat.le_of_ble_eq_true rfl) (hB _ _ ⟨congrArg (fun z => some (Value.long z)) (by rw [hI9.2.1, ej]), by rfl⟩)
  · skip
    have hj : j < n_.toNatClampNeg := jlt h13 (Nat.lt_of_le_of_lt hI9.1 (clampLt _))
    refine V_lload (pc := 16) dX10_firstDigits_16 2 rfl ?_
    refine V_lload (pc := 18) dX10_firstDigits_18 1 rfl ?_
    refine V_lconst (v := 1) (pc := 20) dX10_firstDigits_20 (by decide) ?_
    refine V_land (pc := 21) dX10_firstDigits_21 ?_
    refine V_iload (pc := 22) dX10_firstDigits_22 0 rfl ?_
    refine V_lshl (pc := 24) dX10_firstDigits_24 rfl ?_
    refine V_lor (pc := 25) dX10_firstDigits_25 ?_
    refine V_lstore (pc := 26) (L2 := [(9, .int (nI j)), (7, .long w_), (0, .long p_), (2, .long q_), (4, .int n_)]) dX10_firstDigits_26 (by decide) rfl (fun x5_26 ex5_26 => ?_)
    subst ex5_26
    refine V_lload (pc := 28) dX10_firstDigits_28 2 rfl ?_
    refine V_lload_n (pc := 30) dX10_firstDigits_30 4 rfl rfl ?_
    refine V_callSl (pc := 31) dX10_firstDigits_31 (c_X10_behindDigit Z _ _ _) kX10_153 rfl (Nat.le_of_ble_eq_true rfl) (by decide) (by decide) (Nat.le_of_ble_eq_true rfl) (Nat.le_of_ble_eq_true rfl) ?_
    refine V_lstore (pc := 34) (L2 := [(5, .long (u ||| ((w_ &&& 1) <<< (Int32.toInt64 (nI j) &&& 63)))), (9, .int (nI j)), (0, .long p_), (2, .long q_), (4, .int n_)]) dX10_firstDigits_34 (by decide) rfl (fun x7_34 ex7_34 => ?_)
    refine V_iinc (pc := 36) (v := 1) (L2 := [(7, .long x7_34), (5, .long (u ||| ((w_ &&& 1) <<< (Int32.toInt64 (nI j) &&& 63)))), (0, .long p_), (2, .long q_), (4, .int n_)]) dX10_firstDigits_36 2 rfl (by decide) (by decide) rfl (fun x9_36 ex9_36 => ?_)
    rw [nI_1] at ex9_36
    subst ex9_36
    refine V_goto (pc := 39) (tgt := 9) dX10_firstDigits_39 (by decide) ?_
    refine V_sub (L' := [(9, .int (nI (j + 1))), (7, .long x7_34), (5, .long (u ||| ((w_ &&& 1) <<< (Int32.toInt64 (nI j) &&& 63)))), (0, .long p_), (2, .long q_), (4, .int n_)]) [0, 1, 2, 3, 4, 5] rfl ?_
    refine ih9 (((j + 1)), _, _) ?_ ?_
    · show ((j + 1)) ≤ n_.toNatClampNeg ∧ ((u ||| ((w_ &&& 1) <<< (Int32.toInt64 (nI j) &&& 63)))) = fdB p_ q_ ((j + 1)) ∧ (x7_34) = fdQ p_ q_ ((j + 1))
      refine ⟨hj, ?_, ?_⟩
      · rw [hI9.2.1, hI9.2.2]; rfl
      · rw [← ex7_34, hI9.2.2]; rfl
    · show n_.toNatClampNeg - (j + 1) < n_.toNatClampNeg - j
      omega
set_option maxHeartbeats 4000000 in
set_option maxRecDepth 100000 in
theorem c_X10_number (Z : VZ) (S : XS) (a_ : Int32) (hz : zOK S) : CtF XW Z yX10_number cX10_number 3 (some .long) 1 0 0 [.ref (Z.2.2.2 99), .int a_] (S) (some (.long (if (0 ≤ a_ ∧ a_ ≤ 3) ∧ ¬ S.1 (10 + a_.toNatClampNeg) = -1 then btL (S.2.2.1 (20 + a_.toNatClampNeg)) (S.1 (20 + a_.toNatClampNeg)).toNatClampNeg else -9223372036854775808))) (S) := by
  refine V_entry (own := RX10) (by decide) rfl (Nat.le_of_ble_eq_true rfl) ?_
  intro B hB
  refine V_sub (L' := [(0, .ref (Z.2.2.2 99)), (1, .int a_)]) [0, 1] rfl ?_
  refine V_aload_n (pc := 0) dX10_number_0 0 rfl rfl ?_
  refine V_iload_n (pc := 1) dX10_number_1 1 rfl rfl ?_
  refine V_callV (q0 := 0) (ci := 10) (C := RX10) (T := TX10) (N := 9) (pc := 2) dX10_number_2 (c_X10_sheetAt Z _ _) kX10_118 rfl rfl rfl rfl (Nat.le_of_ble_eq_true rfl) (by decide) (by decide) (Nat.le_of_ble_eq_true rfl) (Nat.le_of_ble_eq_true rfl) (fun v2 S2 hp2 => ?_)
  refine V_widen (n' := 0) (k' := 0) (Nat.le_refl _) (Nat.le_refl _) ?_
  obtain ⟨rfl, ⟨hv2, hs2, hi2, rfl⟩ | ⟨hno2, rfl⟩⟩ := hp2
  · skip
    refine V_astore_n (pc := 5) (L2 := [(0, .ref (Z.2.2.2 99)), (1, .int a_)]) dX10_number_5 rfl (by decide) rfl (fun x2_5 ex2_5 => ?_)
    subst ex2_5
    refine V_aload_n (pc := 6) dX10_number_6 0 rfl rfl ?_
    refine V_ifnull (pc := 7) dX10_number_7 ?_
    refine V_aload_n (pc := 10) dX10_number_10 0 rfl rfl ?_
    refine V_callVi (ci := 8) (C := RX8) (T := TX8) (N := 3) (pc := 11) dX10_number_11 (c_X8_isMissing Z _ _ (by exact hs2)) kX10_134 (x_sh Z _ (by exact hs2)) rfl rfl rfl (Nat.le_of_ble_eq_true rfl) (by decide) (by decide) (Nat.le_of_ble_eq_true rfl) (Nat.le_of_ble_eq_true rfl) ?_
    refine V_bif_eq (pc := 14) (tgt := 23) dX10_number_14 (by decide) (fun h14 => ?_) (fun h14 => ?_)
    · skip
      refine V_aload_n (pc := 23) dX10_number_23 0 rfl rfl ?_
      refine V_callVl (ci := 8) (C := RX8) (T := TX8) (N := 3) (pc := 24) dX10_number_24 (c_X8_bits Z _ _ (by exact hs2) (by exact zOK_le hz hs2)) kX10_140 (x_sh Z _ (by exact hs2)) rfl rfl rfl (Nat.le_of_ble_eq_true rfl) (by decide) (by decide) (Nat.le_of_ble_eq_true rfl) (Nat.le_of_ble_eq_true rfl) ?_
      exact V_lret (pc := 27) dX10_number_27 (Nat.le_of_ble_eq_true rfl) (Nat.le_of_ble_eq_true rfl) (hB _ _ ⟨congrArg (fun z => some (Value.long z)) (by first | exact (if_neg (fun h => h.2 h14)).symm | exact (if_pos ⟨hi2, h14⟩).symm), by rfl⟩)
    · skip
      refine V_ldc2 (pc := 17) dX10_number_17 tw_449 ?_
      refine V_goto (pc := 20) (tgt := 27) dX10_number_20 (by decide) ?_
      exact V_lret (pc := 27) dX10_number_27 (Nat.le_of_ble_eq_true rfl) (Nat.le_of_ble_eq_true rfl) (hB _ _ ⟨congrArg (fun z => some (Value.long z)) (by first | exact (if_neg (fun h => h.2 h14)).symm | exact (if_pos ⟨hi2, h14⟩).symm), by rfl⟩)
  · skip
    refine V_astore_nN (L2 := [(0, .ref (Z.2.2.2 99)), (1, .int a_)]) (pc := 5) dX10_number_5  rfl (by decide) rfl ?_
    refine V_aload_nN (pc := 6) dX10_number_6 0 rfl rfl ?_
    refine V_ifnullN (pc := 7) (tgt := 17) dX10_number_7 (by decide) ?_
    refine V_ldc2 (pc := 17) dX10_number_17 tw_449 ?_
    refine V_goto (pc := 20) (tgt := 27) dX10_number_20 (by decide) ?_
    exact V_lret (pc := 27) dX10_number_27 (Nat.le_of_ble_eq_true rfl) (Nat.le_of_ble_eq_true rfl) (hB _ _ ⟨congrArg (fun z => some (Value.long z)) (by exact (if_neg (fun h => hno2 h.1)).symm), by rfl⟩)
set_option maxHeartbeats 4000000 in
set_option maxRecDepth 100000 in
theorem c_X10_sheet (Z : VZ) (S : XS) (a_ : Int32) (b_ : Int32) (n_ : Int32) : CtF XW Z yX10_sheet cX10_sheet 5 (some .int) 2 0 0 [.ref (Z.2.2.2 99), .int a_, .int b_, .int n_] (S) (some (.int (if ((0 ≤ a_ ∧ a_ ≤ 3) ∧ (-1 ≤ b_ ∧ b_ ≤ 1)) then (if b_ = -1 then 1 else if n_ ≤ 40 then (if 0 ≤ n_ then 1 else -14) else -2) else -2))) (if ((0 ≤ a_ ∧ a_ ≤ 3) ∧ (-1 ≤ b_ ∧ b_ ≤ 1)) then (if b_ = -1 then xA (xF (xF S (10 + a_.toNatClampNeg) (-1)) (20 + a_.toNatClampNeg) (if 40 < (0 : Int32) then 40 else 0)) (20 + a_.toNatClampNeg) (xZr (S.2.2.1 (20 + a_.toNatClampNeg)) 40) else if n_ ≤ 40 ∧ 0 ≤ n_ then xA (xF (xF S (10 + a_.toNatClampNeg) b_) (20 + a_.toNatClampNeg) (if 40 < n_ then 40 else n_)) (20 + a_.toNatClampNeg) (xZr (S.2.2.1 (20 + a_.toNatClampNeg)) 40) else S) else S) := by
  refine V_entry (own := RX10) (by decide) rfl (Nat.le_of_ble_eq_true rfl) ?_
  intro B hB
  refine V_sub (L' := [(0, .ref (Z.2.2.2 99)), (1, .int a_), (2, .int b_), (3, .int n_)]) [0, 1, 2, 3] rfl ?_
  refine V_aload_n (pc := 0) dX10_sheet_0 0 rfl rfl ?_
  refine V_iload_n (pc := 1) dX10_sheet_1 1 rfl rfl ?_
  refine V_callV (q0 := 0) (ci := 10) (C := RX10) (T := TX10) (N := 9) (pc := 2) dX10_sheet_2 (c_X10_sheetAt Z _ _) kX10_118 rfl rfl rfl rfl (Nat.le_of_ble_eq_true rfl) (by decide) (by decide) (Nat.le_of_ble_eq_true rfl) (Nat.le_of_ble_eq_true rfl) (fun v2 S2 hp2 => ?_)
  refine V_widen (n' := 0) (k' := 0) (Nat.le_refl _) (Nat.le_refl _) ?_
  obtain ⟨rfl, ⟨hv2, hs2, hi2, rfl⟩ | ⟨hno2, rfl⟩⟩ := hp2
  · skip
    refine V_astore (pc := 5) (L2 := [(0, .ref (Z.2.2.2 99)), (1, .int a_), (2, .int b_), (3, .int n_)]) dX10_sheet_5 (by decide) rfl (fun x4_5 ex4_5 => ?_)
    subst ex4_5
    refine V_aload (pc := 7) dX10_sheet_7 0 rfl ?_
    refine V_ifnull (pc := 9) dX10_sheet_9 ?_
    refine V_iload_n (pc := 12) dX10_sheet_12 3 rfl rfl ?_
    refine V_iconst (v := (-1)) (pc := 13) dX10_sheet_13 (by decide) ?_
    refine V_iconst (v := 1) (pc := 14) dX10_sheet_14 (by decide) ?_
    refine V_callSi (pc := 15) dX10_sheet_15 (c_X10_between Z _ _ _ _) kX10_60 rfl (Nat.le_of_ble_eq_true rfl) (by decide) (by decide) (Nat.le_of_ble_eq_true rfl) (Nat.le_of_ble_eq_true rfl) ?_
    refine V_bif_ne (pc := 18) (tgt := 24) dX10_sheet_18 (by decide) (fun h18 => ?_) (fun h18 => ?_)
    · skip
      refine V_iload_n (pc := 24) dX10_sheet_24 3 rfl rfl ?_
      refine V_iconst (v := (-1)) (pc := 25) dX10_sheet_25 (by decide) ?_
      refine V_icmp_ne (pc := 26) (tgt := 38) dX10_sheet_26 (by decide) (fun h26 => ?_) (fun h26 => ?_)
      · skip
        refine V_iload_n (pc := 38) dX10_sheet_38 4 rfl rfl ?_
        refine V_bipush (v := 40) (pc := 39) dX10_sheet_39 (by decide) ?_
        refine V_icmp_le (pc := 41) (tgt := 47) dX10_sheet_41 (by decide) (fun h41 => ?_) (fun h41 => ?_)
        · skip
          refine V_iload_n (pc := 47) dX10_sheet_47 4 rfl rfl ?_
          refine V_if_ge (pc := 48) (tgt := 54) dX10_sheet_48 (by decide) (fun h48 => ?_) (fun h48 => ?_)
          · skip
            refine V_aload (pc := 54) dX10_sheet_54 0 rfl ?_
            refine V_iload_n (pc := 56) dX10_sheet_56 3 rfl rfl ?_
            refine V_iload_n (pc := 57) dX10_sheet_57 4 rfl rfl ?_
            refine V_callVv (ci := 8) (C := RX8) (T := TX8) (N := 3) (pc := 58) dX10_sheet_58 (c_X8_become Z _ _ _ _ (by exact hs2)) kX10_284 (x_sh Z _ (by exact hs2)) rfl rfl rfl (Nat.le_of_ble_eq_true rfl) (by decide) (by decide) (Nat.le_of_ble_eq_true rfl) (Nat.le_of_ble_eq_true rfl) ?_
            refine V_iconst (v := 1) (pc := 61) dX10_sheet_61 (by decide) ?_
            exact V_iret (pc := 62) dX10_sheet_62 (Nat.le_of_ble_eq_true rfl) (Nat.le_of_ble_eq_true rfl) (hB _ _ ⟨congrArg (fun z => some (Value.int z)) (by rw [if_pos ⟨hi2, h18⟩, if_neg h26, if_pos h41, if_pos h48]), by refine Eq.symm ?_; rw [if_pos ⟨hi2, h18⟩, if_neg h26, if_pos ⟨h41, h48⟩]⟩)
          · skip
            refine V_bipush (v := (-14)) (pc := 51) dX10_sheet_51 (by decide) ?_
            exact V_iret (pc := 53) dX10_sheet_53 (Nat.le_of_ble_eq_true rfl) (Nat.le_of_ble_eq_true rfl) (hB _ _ ⟨congrArg (fun z => some (Value.int z)) (by rw [if_pos ⟨hi2, h18⟩, if_neg h26, if_pos h41, if_neg h48]), by rw [if_pos ⟨hi2, h18⟩, if_neg h26, if_neg (fun h => h48 h.2)]⟩)
        · skip
          refine V_bipush (v := (-2)) (pc := 44) dX10_sheet_44 (by decide) ?_
          exact V_iret (pc := 46) dX10_sheet_46 (Nat.le_of_ble_eq_true rfl) (Nat.le_of_ble_eq_true rfl) (hB _ _ ⟨congrArg (fun z => some (Value.int z)) (by rw [if_pos ⟨hi2, h18⟩, if_neg h26, if_neg h41]), by rw [if_pos ⟨hi2, h18⟩, if_neg h26, if_neg (fun h => h41 h.1)]⟩)
      · skip
        refine V_aload (pc := 29) dX10_sheet_29 0 rfl ?_
        refine V_iconst (v := (-1)) (pc := 31) dX10_sheet_31 (by decide) ?_
        refine V_iconst (v := 0) (pc := 32) dX10_sheet_32 (by decide) ?_
        refine V_callVv (ci := 8) (C := RX8) (T := TX8) (N := 3) (pc := 33) dX10_sheet_33 (c_X8_become Z _ _ _ _ (by exact hs2)) kX10_284 (x_sh Z _ (by exact hs2)) rfl rfl rfl (Nat.le_of_ble_eq_true rfl) (by decide) (by decide) (Nat.le_of_ble_eq_true rfl) (Nat.le_of_ble_eq_true rfl) ?_
        refine V_iconst (v := 1) (pc := 36) dX10_sheet_36 (by decide) ?_
        exact V_iret (pc := 37) dX10_sheet_37 (Nat.le_of_ble_eq_true rfl) (Nat.le_of_ble_eq_true rfl) (hB _ _ ⟨congrArg (fun z => some (Value.int z)) (by rw [if_pos ⟨hi2, h18⟩, if_pos h26]), by exact ((if_pos ⟨hi2, h18⟩).trans (if_pos h26)).symm⟩)
    · skip
      refine V_bipush (v := (-2)) (pc := 21) dX10_sheet_21 (by decide) ?_
      exact V_iret (pc := 23) dX10_sheet_23 (Nat.le_of_ble_eq_true rfl) (Nat.le_of_ble_eq_true rfl) (hB _ _ ⟨congrArg (fun z => some (Value.int z)) (by exact (if_neg (fun h => h18 h.2)).symm), by exact (if_neg (fun h => h18 h.2)).symm⟩)
  · skip
    refine V_astoreN (L2 := [(0, .ref (Z.2.2.2 99)), (1, .int a_), (2, .int b_), (3, .int n_)]) (pc := 5) dX10_sheet_5  (by decide) rfl ?_
    refine V_aloadN (pc := 7) dX10_sheet_7 0 rfl ?_
    refine V_ifnullN (pc := 9) (tgt := 21) dX10_sheet_9 (by decide) ?_
    refine V_bipush (v := (-2)) (pc := 21) dX10_sheet_21 (by decide) ?_
    exact V_iret (pc := 23) dX10_sheet_23 (Nat.le_of_ble_eq_true rfl) (Nat.le_of_ble_eq_true rfl) (hB _ _ ⟨congrArg (fun z => some (Value.int z)) (by exact (if_neg (fun h => hno2 h.1)).symm), by exact (if_neg (fun h => hno2 h.1)).symm⟩)
set_option maxHeartbeats 4000000 in
set_option maxRecDepth 100000 in
theorem c_X10_expand (Z : VZ) (S : XS) (a_ : Int32) (p_ : Int32) (q_ : Int32) (n_ : Int32) : CtF XW Z yX10_expand cX10_expand 6 (some .int) 3 0 0 [.ref (Z.2.2.2 99), .int a_, .int p_, .int q_, .int n_] (S) (some (.int (if ((0 ≤ a_ ∧ a_ ≤ 3) ∧ (0 ≤ n_ ∧ n_ ≤ 40) ∧ ((-9999 ≤ p_ ∧ p_ ≤ 9999) ∧ (1 ≤ q_ ∧ q_ ≤ 9999))) then (if q_ &&& 1 = 0 then -3 else n_) else -2))) (if ((0 ≤ a_ ∧ a_ ≤ 3) ∧ (0 ≤ n_ ∧ n_ ≤ 40) ∧ ((-9999 ≤ p_ ∧ p_ ≤ 9999) ∧ (1 ≤ q_ ∧ q_ ≤ 9999))) ∧ ¬ q_ &&& 1 = 0 then xA (xF (xF S (10 + a_.toNatClampNeg) 0) (20 + a_.toNatClampNeg) n_) (20 + a_.toNatClampNeg) (rwL (xZr (S.2.2.1 (20 + a_.toNatClampNeg)) 40) (fdB (Int32.toInt64 p_) (Int32.toInt64 q_) n_.toNatClampNeg) n_.toNatClampNeg) else S) := by
  refine V_entry (own := RX10) (by decide) rfl (Nat.le_of_ble_eq_true rfl) ?_
  intro B hB
  refine V_sub (L' := [(0, .ref (Z.2.2.2 99)), (1, .int a_), (2, .int p_), (3, .int q_), (4, .int n_)]) [0, 1, 2, 3, 4] rfl ?_
  refine V_aload_n (pc := 0) dX10_expand_0 0 rfl rfl ?_
  refine V_iload_n (pc := 1) dX10_expand_1 1 rfl rfl ?_
  refine V_callV (q0 := 0) (ci := 10) (C := RX10) (T := TX10) (N := 9) (pc := 2) dX10_expand_2 (c_X10_sheetAt Z _ _) kX10_118 rfl rfl rfl rfl (Nat.le_of_ble_eq_true rfl) (by decide) (by decide) (Nat.le_of_ble_eq_true rfl) (Nat.le_of_ble_eq_true rfl) (fun v2 S2 hp2 => ?_)
  refine V_widen (n' := 0) (k' := 0) (Nat.le_refl _) (Nat.le_refl _) ?_
  obtain ⟨rfl, ⟨hv2, hs2, hi2, rfl⟩ | ⟨hno2, rfl⟩⟩ := hp2
  · skip
    refine V_astore (pc := 5) (L2 := [(0, .ref (Z.2.2.2 99)), (1, .int a_), (2, .int p_), (3, .int q_), (4, .int n_)]) dX10_expand_5 (by decide) rfl (fun x5_5 ex5_5 => ?_)
    subst ex5_5
    refine V_aload (pc := 7) dX10_expand_7 0 rfl ?_
    refine V_ifnull (pc := 9) dX10_expand_9 ?_
    refine V_iload (pc := 12) dX10_expand_12 5 rfl ?_
    refine V_iconst (v := 0) (pc := 14) dX10_expand_14 (by decide) ?_
    refine V_bipush (v := 40) (pc := 15) dX10_expand_15 (by decide) ?_
    refine V_callSi (pc := 17) dX10_expand_17 (c_X10_between Z _ _ _ _) kX10_60 rfl (Nat.le_of_ble_eq_true rfl) (by decide) (by decide) (Nat.le_of_ble_eq_true rfl) (Nat.le_of_ble_eq_true rfl) ?_
    refine V_bif_eq (pc := 20) (tgt := 31) dX10_expand_20 (by decide) (fun h20 => ?_) (fun h20 => ?_)
    · skip
      refine V_bipush (v := (-2)) (pc := 31) dX10_expand_31 (by decide) ?_
      exact V_iret (pc := 33) dX10_expand_33 (Nat.le_of_ble_eq_true rfl) (Nat.le_of_ble_eq_true rfl) (hB _ _ ⟨congrArg (fun z => some (Value.int z)) (by exact (if_neg (fun h => h20 h.2.1)).symm), by exact (if_neg (fun h => h20 h.1.2.1)).symm⟩)
    · skip
      refine V_iload_n (pc := 23) dX10_expand_23 3 rfl rfl ?_
      refine V_iload_n (pc := 24) dX10_expand_24 4 rfl rfl ?_
      refine V_callSi (pc := 25) dX10_expand_25 (c_X10_isFraction Z _ _ _) kX10_144 rfl (Nat.le_of_ble_eq_true rfl) (by decide) (by decide) (Nat.le_of_ble_eq_true rfl) (Nat.le_of_ble_eq_true rfl) ?_
      refine V_bif_ne (pc := 28) (tgt := 34) dX10_expand_28 (by decide) (fun h28 => ?_) (fun h28 => ?_)
      · skip
        refine V_iload_n (pc := 34) dX10_expand_34 4 rfl rfl ?_
        refine V_iconst (v := 1) (pc := 35) dX10_expand_35 (by decide) ?_
        refine V_iand (pc := 36) dX10_expand_36 ?_
        refine V_if_ne (pc := 37) (tgt := 43) dX10_expand_37 (by decide) (fun h37 => ?_) (fun h37 => ?_)
        · skip
          refine V_aload (pc := 43) dX10_expand_43 0 rfl ?_
          refine V_iload_n (pc := 45) dX10_expand_45 3 rfl rfl ?_
          refine V_i2l (pc := 46) dX10_expand_46 rfl ?_
          refine V_iload_n (pc := 47) dX10_expand_47 4 rfl rfl ?_
          refine V_i2l (pc := 48) dX10_expand_48 rfl ?_
          refine V_iload (pc := 49) dX10_expand_49 5 rfl ?_
          refine V_callSl (pc := 51) dX10_expand_51 (c_X10_firstDigits Z _ _ _ _) kX10_148 rfl (Nat.le_of_ble_eq_true rfl) (by decide) (by decide) (Nat.le_of_ble_eq_true rfl) (Nat.le_of_ble_eq_true rfl) ?_
          refine V_iload (pc := 54) dX10_expand_54 5 rfl ?_
          refine V_callVv (ci := 8) (C := RX8) (T := TX8) (N := 3) (pc := 56) dX10_expand_56 (c_X8_becomeRow Z _ _ _ _ (by exact hs2) (by exact h20)) kX10_122 (x_sh Z _ (by exact hs2)) rfl rfl rfl (Nat.le_of_ble_eq_true rfl) (by decide) (by decide) (Nat.le_of_ble_eq_true rfl) (Nat.le_of_ble_eq_true rfl) ?_
          refine V_iload (pc := 59) dX10_expand_59 5 rfl ?_
          exact V_iret (pc := 61) dX10_expand_61 (Nat.le_of_ble_eq_true rfl) (Nat.le_of_ble_eq_true rfl) (hB _ _ ⟨congrArg (fun z => some (Value.int z)) (by rw [if_pos ⟨hi2, h20, h28⟩, if_neg h37]), by exact (if_pos ⟨⟨hi2, h20, h28⟩, h37⟩).symm⟩)
        · skip
          refine V_bipush (v := (-3)) (pc := 40) dX10_expand_40 (by decide) ?_
          exact V_iret (pc := 42) dX10_expand_42 (Nat.le_of_ble_eq_true rfl) (Nat.le_of_ble_eq_true rfl) (hB _ _ ⟨congrArg (fun z => some (Value.int z)) (by rw [if_pos ⟨hi2, h20, h28⟩, if_pos h37]), by exact (if_neg (fun h => h.2 h37)).symm⟩)
      · skip
        refine V_bipush (v := (-2)) (pc := 31) dX10_expand_31 (by decide) ?_
        exact V_iret (pc := 33) dX10_expand_33 (Nat.le_of_ble_eq_true rfl) (Nat.le_of_ble_eq_true rfl) (hB _ _ ⟨congrArg (fun z => some (Value.int z)) (by exact (if_neg (fun h => h28 h.2.2)).symm), by exact (if_neg (fun h => h28 h.1.2.2)).symm⟩)
  · skip
    refine V_astoreN (L2 := [(0, .ref (Z.2.2.2 99)), (1, .int a_), (2, .int p_), (3, .int q_), (4, .int n_)]) (pc := 5) dX10_expand_5  (by decide) rfl ?_
    refine V_aloadN (pc := 7) dX10_expand_7 0 rfl ?_
    refine V_ifnullN (pc := 9) (tgt := 31) dX10_expand_9 (by decide) ?_
    refine V_bipush (v := (-2)) (pc := 31) dX10_expand_31 (by decide) ?_
    exact V_iret (pc := 33) dX10_expand_33 (Nat.le_of_ble_eq_true rfl) (Nat.le_of_ble_eq_true rfl) (hB _ _ ⟨congrArg (fun z => some (Value.int z)) (by exact (if_neg (fun h => hno2 h.1)).symm), by exact (if_neg (fun h => hno2 h.1.1)).symm⟩)
set_option maxHeartbeats 4000000 in
set_option maxRecDepth 100000 in
theorem c_X10_toldTogether (Z : VZ) (S : XS) (e_ : Int32) (x_ : Int32) : CtF XW Z yX10_toldTogether cX10_toldTogether 5 (some .int) 0 0 0 [.ref (Z.2.2.2 99), .int e_, .int x_] (S) (some (.int (ttG S.2.2.2.1 e_ x_ 4))) (S) := by
  refine V_entry (own := RX10) (by decide) rfl (Nat.le_of_ble_eq_true rfl) ?_
  intro B hB
  refine V_sub (L' := [(0, .ref (Z.2.2.2 99)), (1, .int e_), (2, .int x_)]) [0, 1, 2] rfl ?_
  refine V_iconst (v := 0) (pc := 0) dX10_toldTogether_0 (by decide) ?_
  refine V_istore_n (pc := 1) (L2 := [(0, .ref (Z.2.2.2 99)), (1, .int e_), (2, .int x_)]) dX10_toldTogether_1 rfl (by decide) rfl (fun x3_1 ex3_1 => ?_)
  subst ex3_1
  refine V_iconst (v := 0) (pc := 2) dX10_toldTogether_2 (by decide) ?_
  refine V_istore (pc := 3) (L2 := [(3, .int 0), (0, .ref (Z.2.2.2 99)), (1, .int e_), (2, .int x_)]) dX10_toldTogether_3 (by decide) rfl (fun x4_3 ex4_3 => ?_)
  subst ex4_3
  refine V_sub (L' := [(4, .int (nI 0)), (3, .int 0), (0, .ref (Z.2.2.2 99)), (1, .int e_), (2, .int x_)]) [0, 1, 2, 3, 4] rfl ?_
  refine Vloop (σ := Nat × Int32) (fun x => (x.1) ≤ 4 ∧ (x.2) = ttG S.2.2.2.1 e_ x_ (x.1)) (fun x => 4 - (x.1)) (fun x => V XW Z cX10_toldTogether RX10 5 (some .int) 0 0 0 B 0 0 5 [(4, .int (nI (x.1))), (3, .int (x.2)), (0, .ref (Z.2.2.2 99)), (1, .int e_), (2, .int x_)] [] (S)) ?_ (0, 0) (by exact ⟨Nat.zero_le _, rfl⟩)
  rintro ⟨j, u⟩ hI5 ih5
  have hI5 : j ≤ 4 ∧ u = ttG S.2.2.2.1 e_ x_ j := hI5
  show V XW Z cX10_toldTogether RX10 5 (some .int) 0 0 0 B 0 0 5 [(4, .int (nI j)), (3, .int u), (0, .ref (Z.2.2.2 99)), (1, .int e_), (2, .int x_)] [] (S)
  refine V_iload (pc := 5) dX10_toldTogether_5 0 rfl ?_
  refine V_aload_n (pc := 7) dX10_toldTogether_7 2 rfl rfl ?_
  refine Xg_X10_55 (pc := 8) dX10_toldTogether_8 ?_
  refine Xn_8 (pc := 11) dX10_toldTogether_11 ?_
  refine V_icmp_ge (pc := 12) (tgt := 46) dX10_toldTogether_12 (by decide) (fun h12 => ?_) (fun h12 => ?_)
  · skip
    have hj : 4 ≤ j := jge h12 (by omega)
    have ej : j = 4 := by omega
    refine V_iload_n (pc := 46) dX10_toldTogether_46 1 rfl rfl ?_
    exact V_iret (pc := 47) dX10_toldTogether_47 (Nat.le_of_ble_eq_true rfl) (Nat.le_of_ble_eq_true rfl) (hB _ _ ⟨congrArg (fun z => some (Value.int z)) (by rw [hI5.2, ej]), by rfl⟩)
  · skip
    have hj : j < 4 := jlt h12 (by omega)
    refine V_iload_n (pc := 15) dX10_toldTogether_15 3 rfl rfl ?_
    refine V_iload (pc := 16) dX10_toldTogether_16 0 rfl ?_
    refine V_ishr (pc := 18) dX10_toldTogether_18 ?_
    refine V_iconst (v := 1) (pc := 19) dX10_toldTogether_19 (by decide) ?_
    refine V_iand (pc := 20) dX10_toldTogether_20 ?_
    refine V_iconst (v := 1) (pc := 21) dX10_toldTogether_21 (by decide) ?_
    refine V_icmp_ne (pc := 22) (tgt := 40) dX10_toldTogether_22 (by decide) (fun h22 => ?_) (fun h22 => ?_)
    · skip
      refine V_iinc (pc := 40) (v := 1) (L2 := [(3, .int u), (0, .ref (Z.2.2.2 99)), (1, .int e_), (2, .int x_)]) dX10_toldTogether_40 0 rfl (by decide) (by decide) rfl (fun x4_40 ex4_40 => ?_)
      rw [nI_1] at ex4_40
      subst ex4_40
      refine V_goto (pc := 43) (tgt := 5) dX10_toldTogether_43 (by decide) ?_
      refine V_sub (L' := [(4, .int (nI (j + 1))), (3, .int u), (0, .ref (Z.2.2.2 99)), (1, .int e_), (2, .int x_)]) [0, 1, 2, 3, 4] rfl ?_
      refine ih5 (((j + 1)), _) ?_ ?_
      · show ((j + 1)) ≤ 4 ∧ (u) = ttG S.2.2.2.1 e_ x_ ((j + 1))
        refine ⟨hj, ?_⟩
        show _ = ttG S.2.2.2.1 e_ x_ (j + 1)
        rw [hI5.2]
        simp only [ttG, it]
        first | (rw [if_pos h22, nI_clamp (by omega)]; done) | rw [if_neg h22]
      · show 4 - (j + 1) < 4 - j
        omega
    · skip
      refine V_iload_n (pc := 25) dX10_toldTogether_25 1 rfl rfl ?_
      refine V_aload_n (pc := 26) dX10_toldTogether_26 2 rfl rfl ?_
      refine Xg_X10_55 (pc := 27) dX10_toldTogether_27 ?_
      refine V_iload (pc := 30) dX10_toldTogether_30 0 rfl ?_
      refine Xl_t (pc := 32) dX10_toldTogether_32 (by exact vp_in_nI (by omega) (by decide)) ?_
      refine V_iload_n (pc := 33) dX10_toldTogether_33 4 rfl rfl ?_
      refine V_lushr (pc := 34) dX10_toldTogether_34 rfl ?_
      refine V_lconst (v := 1) (pc := 35) dX10_toldTogether_35 (by decide) ?_
      refine V_land (pc := 36) dX10_toldTogether_36 ?_
      refine V_l2i (pc := 37) dX10_toldTogether_37 rfl ?_
      refine V_iadd (pc := 38) dX10_toldTogether_38 ?_
      refine V_istore_n (pc := 39) (L2 := [(4, .int (nI j)), (0, .ref (Z.2.2.2 99)), (1, .int e_), (2, .int x_)]) dX10_toldTogether_39 rfl (by decide) rfl (fun x3_39 ex3_39 => ?_)
      subst ex3_39
      refine V_iinc (pc := 40) (v := 1) (L2 := [(3, .int (u + (Int64.toInt32 ((Int64.toUInt64 (S.2.2.2.1 ((nI j)).toNatClampNeg) >>> ((Int32.toInt64 x_).toUInt64 &&& Int64.toUInt64 63)).toInt64 &&& 1)))), (0, .ref (Z.2.2.2 99)), (1, .int e_), (2, .int x_)]) dX10_toldTogether_40 1 rfl (by decide) (by decide) rfl (fun x4_40 ex4_40 => ?_)
      rw [nI_1] at ex4_40
      subst ex4_40
      refine V_goto (pc := 43) (tgt := 5) dX10_toldTogether_43 (by decide) ?_
      refine V_sub (L' := [(4, .int (nI (j + 1))), (3, .int (u + (Int64.toInt32 ((Int64.toUInt64 (S.2.2.2.1 ((nI j)).toNatClampNeg) >>> ((Int32.toInt64 x_).toUInt64 &&& Int64.toUInt64 63)).toInt64 &&& 1)))), (0, .ref (Z.2.2.2 99)), (1, .int e_), (2, .int x_)]) [0, 1, 2, 3, 4] rfl ?_
      refine ih5 (((j + 1)), _) ?_ ?_
      · show ((j + 1)) ≤ 4 ∧ ((u + (Int64.toInt32 ((Int64.toUInt64 (S.2.2.2.1 ((nI j)).toNatClampNeg) >>> ((Int32.toInt64 x_).toUInt64 &&& Int64.toUInt64 63)).toInt64 &&& 1)))) = ttG S.2.2.2.1 e_ x_ ((j + 1))
        refine ⟨hj, ?_⟩
        show _ = ttG S.2.2.2.1 e_ x_ (j + 1)
        rw [hI5.2]
        simp only [ttG, it]
        first | (rw [if_pos h22, nI_clamp (by omega)]; done) | rw [if_neg h22]
      · show 4 - (j + 1) < 4 - j
        omega
