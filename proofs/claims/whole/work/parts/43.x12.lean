def clX (S : XS) (k : Int32) (j : Nat) : Int32 := it (fun i (b : Int32) => if isU (xmk S (xAd S (nI i))) k then b + mfo S (xAd S (nI i)) 1 else b) j 0
def nbX (S : XS) (k : Int32) (j : Nat) : Int32 := it (fun i (b : Int32) => if isU (xmk S (xAd S (nI i))) k then b ||| 1 <<< (nI i &&& 31) else b) j 0
def im5 (g : Nat → Int32) (p : Nat) (h : Nat → Int32) : Nat → Int32 := upd (upd (upd (upd (upd g p (h 0)) (p + 1) (h 1)) (p + 2) (h 2)) (p + 3) (h 3)) (p + 4) (h 4)
def imgX (S : XS) (j : Nat) : Nat → Int32 := it (fun i g => im5 g (5 * i) (mfo S (xAd S (nI i)))) j (S.2.2.1 2)
theorem nI5 (j : Nat) : nI j * 5 = nI (5 * j) := by
  rw [show (5 : Int32) = nI 5 from rfl, pk_mul, Nat.mul_comm]
theorem nI5a {j k : Nat} (h : j < 4) (hk : k < 5) : (nI (5 * j) + nI k).toNatClampNeg = 5 * j + k := by
  rw [nI_add, nI_clamp (by omega)]
theorem in5a {j k : Nat} (h : j < 4) (hk : k < 5) : vp_in (nI (5 * j) + nI k) 20 := by
  rw [nI_add]
  exact vp_in_nI (by omega) (by decide)
theorem in5b {j : Nat} (h : j < 4) : 0 ≤ nI (5 * j) ∧ nI (5 * j) ≤ 20 - 5 := ⟨nI_pos' (by omega), nI_le (b := 15) (by omega) (by decide)⟩
set_option maxHeartbeats 4000000 in
set_option maxRecDepth 100000 in
theorem c_X10_cellsOf (Z : VZ) (S : XS) (k_ : Int32) (hx : xOK S) : CtF XW Z yX10_cellsOf cX10_cellsOf 5 (some .int) 1 0 0 [.ref (Z.2.2.2 99), .int k_] (S) (some (.int (clX S k_ (S.1 1).toNatClampNeg))) (S) := by
  refine V_entry (own := RX10) (by decide) rfl (Nat.le_of_ble_eq_true rfl) ?_
  intro B hB
  refine V_sub (L' := [(0, .ref (Z.2.2.2 99)), (1, .int k_)]) [0, 1] rfl ?_
  refine V_iconst (v := 0) (pc := 0) dX10_cellsOf_0 (by decide) ?_
  refine V_istore_n (pc := 1) (L2 := [(0, .ref (Z.2.2.2 99)), (1, .int k_)]) dX10_cellsOf_1 rfl (by decide) rfl (fun x2_1 ex2_1 => ?_)
  subst ex2_1
  refine V_iconst (v := 0) (pc := 2) dX10_cellsOf_2 (by decide) ?_
  refine V_istore_n (pc := 3) (L2 := [(2, .int 0), (0, .ref (Z.2.2.2 99)), (1, .int k_)]) dX10_cellsOf_3 rfl (by decide) rfl (fun x3_3 ex3_3 => ?_)
  subst ex3_3
  refine V_sub (L' := [(3, .int (nI 0)), (2, .int 0), (0, .ref (Z.2.2.2 99)), (1, .int k_)]) [0, 1, 2, 3] rfl ?_
  refine Vloop (σ := Nat × Int32) (fun x => (x.1) ≤ (S.1 1).toNatClampNeg ∧ (x.2) = clX S k_ (x.1)) (fun x => (S.1 1).toNatClampNeg - (x.1)) (fun x => V XW Z cX10_cellsOf RX10 5 (some .int) 1 0 0 B 0 0 4 [(3, .int (nI (x.1))), (2, .int (x.2)), (0, .ref (Z.2.2.2 99)), (1, .int k_)] [] (S)) ?_ (0, 0) (by exact ⟨Nat.zero_le _, rfl⟩)
  rintro ⟨j, u⟩ hI4 ih4
  have hI4 : j ≤ (S.1 1).toNatClampNeg ∧ u = clX S k_ j := hI4
  show V XW Z cX10_cellsOf RX10 5 (some .int) 1 0 0 B 0 0 4 [(3, .int (nI j)), (2, .int u), (0, .ref (Z.2.2.2 99)), (1, .int k_)] [] (S)
  refine V_iload_n (pc := 4) dX10_cellsOf_4 0 rfl rfl ?_
  refine V_aload_n (pc := 5) dX10_cellsOf_5 2 rfl rfl ?_
  refine Xg_X10_17 (pc := 6) (v := (S.1 1)) rfl dX10_cellsOf_6 ?_
  refine V_icmp_ge (pc := 9) (tgt := 47) dX10_cellsOf_9 (by decide) (fun h9 => ?_) (fun h9 => ?_)
  · skip
    have hj : (S.1 1).toNatClampNeg ≤ j := jge h9 (by have := xcnt hx; omega)
    have ej : j = (S.1 1).toNatClampNeg := Nat.le_antisymm hI4.1 hj
    refine V_iload_n (pc := 47) dX10_cellsOf_47 1 rfl rfl ?_
    exact V_iret (pc := 48) dX10_cellsOf_48 (Nat.le_of_ble_eq_true rfl) (Nat.le_of_ble_eq_true rfl) (hB _ _ ⟨congrArg (fun z => some (Value.int z)) (by rw [hI4.2, ej]), by rfl⟩)
  · skip
    have hj : j < (S.1 1).toNatClampNeg := jlt h9 (by have := xcnt hx; omega)
    refine V_aload_n (pc := 12) dX10_cellsOf_12 2 rfl rfl ?_
    refine V_iload_n (pc := 13) dX10_cellsOf_13 0 rfl rfl ?_
    refine V_callV (q0 := 0) (ci := 10) (C := RX10) (T := TX10) (N := 9) (pc := 14) dX10_cellsOf_14 (c_X10_machineAt Z _ _ (by exact hx)) kX10_76 rfl rfl rfl rfl (Nat.le_of_ble_eq_true rfl) (by decide) (by decide) (Nat.le_of_ble_eq_true rfl) (Nat.le_of_ble_eq_true rfl) (fun v14 S14 hp14 => ?_)
    refine V_widen (n' := 0) (k' := 0) (Nat.le_refl _) (Nat.le_refl _) ?_
    obtain ⟨rfl, ⟨ma_, hvma_, hima_, hMma_, hama_, hmma_, rfl⟩ | ⟨hno14, rfl⟩⟩ := hp14
    · skip
      refine V_astore (pc := 17) (L2 := [(3, .int (nI j)), (2, .int u), (0, .ref (Z.2.2.2 99)), (1, .int k_)]) dX10_cellsOf_17 (by decide) rfl (fun x4_17 ex4_17 => ?_)
      subst ex4_17
      refine V_aload (pc := 19) dX10_cellsOf_19 0 rfl ?_
      refine V_ifnull (pc := 21) dX10_cellsOf_21 ?_
      refine V_aload (pc := 24) dX10_cellsOf_24 0 rfl ?_
      refine V_iload_n (pc := 26) dX10_cellsOf_26 4 rfl rfl ?_
      refine V_callSi (pc := 27) dX10_cellsOf_27 (c_X10_isUnder Z _ _ _ (by exact hama_) (by exact hmma_)) kX10_106 rfl (Nat.le_of_ble_eq_true rfl) (by decide) (by decide) (Nat.le_of_ble_eq_true rfl) (Nat.le_of_ble_eq_true rfl) ?_
      refine V_bif_eq (pc := 30) (tgt := 41) dX10_cellsOf_30 (by decide) (fun h30 => ?_) (fun h30 => ?_)
      · skip
        refine V_iinc (pc := 41) (v := 1) (L2 := [(4, .ref (ma_)), (2, .int u), (0, .ref (Z.2.2.2 99)), (1, .int k_)]) dX10_cellsOf_41 1 rfl (by decide) (by decide) rfl (fun x3_41 ex3_41 => ?_)
        rw [nI_1] at ex3_41
        subst ex3_41
        refine V_goto (pc := 44) (tgt := 4) dX10_cellsOf_44 (by decide) ?_
        refine V_sub (L' := [(3, .int (nI (j + 1))), (2, .int u), (0, .ref (Z.2.2.2 99)), (1, .int k_)]) [0, 2, 3, 4] rfl ?_
        refine ih4 (((j + 1)), _) ?_ ?_
        · show ((j + 1)) ≤ (S.1 1).toNatClampNeg ∧ (u) = clX S k_ ((j + 1))
          refine ⟨hj, ?_⟩
          rw [hI4.2]
          simp only [clX, it]
          rw [xAd_eq hMma_]
          first | exact (if_pos h30).symm | exact (if_neg h30).symm
        · show (S.1 1).toNatClampNeg - (j + 1) < (S.1 1).toNatClampNeg - j
          omega
      · skip
        refine V_iload_n (pc := 33) dX10_cellsOf_33 2 rfl rfl ?_
        refine V_aload (pc := 34) dX10_cellsOf_34 0 rfl ?_
        refine Xmg_cells (pc := 36) (v := (mfo S ma_ 1)) (by exact hama_) (by exact hmma_) rfl dX10_cellsOf_36 tw_202 (Or.inl rfl) ?_
        refine V_iadd (pc := 39) dX10_cellsOf_39 ?_
        refine V_istore_n (pc := 40) (L2 := [(4, .ref (ma_)), (3, .int (nI j)), (0, .ref (Z.2.2.2 99)), (1, .int k_)]) dX10_cellsOf_40 rfl (by decide) rfl (fun x2_40 ex2_40 => ?_)
        subst ex2_40
        refine V_iinc (pc := 41) (v := 1) (L2 := [(2, .int (u + (mfo S ma_ 1))), (4, .ref (ma_)), (0, .ref (Z.2.2.2 99)), (1, .int k_)]) dX10_cellsOf_41 2 rfl (by decide) (by decide) rfl (fun x3_41 ex3_41 => ?_)
        rw [nI_1] at ex3_41
        subst ex3_41
        refine V_goto (pc := 44) (tgt := 4) dX10_cellsOf_44 (by decide) ?_
        refine V_sub (L' := [(3, .int (nI (j + 1))), (2, .int (u + (mfo S ma_ 1))), (0, .ref (Z.2.2.2 99)), (1, .int k_)]) [0, 1, 3, 4] rfl ?_
        refine ih4 (((j + 1)), _) ?_ ?_
        · show ((j + 1)) ≤ (S.1 1).toNatClampNeg ∧ ((u + (mfo S ma_ 1))) = clX S k_ ((j + 1))
          refine ⟨hj, ?_⟩
          rw [hI4.2]
          simp only [clX, it]
          rw [xAd_eq hMma_]
          first | exact (if_pos h30).symm | exact (if_neg h30).symm
        · show (S.1 1).toNatClampNeg - (j + 1) < (S.1 1).toNatClampNeg - j
          omega
    · skip
      exact absurd ⟨nI_pos' (by have := xcnt hx; omega), Int32.not_le.mp h9⟩ hno14
set_option maxHeartbeats 4000000 in
set_option maxRecDepth 100000 in
theorem c_X10_numbersOf (Z : VZ) (S : XS) (k_ : Int32) (hx : xOK S) : CtF XW Z yX10_numbersOf cX10_numbersOf 5 (some .int) 1 0 0 [.ref (Z.2.2.2 99), .int k_] (S) (some (.int (nbX S k_ (S.1 1).toNatClampNeg))) (S) := by
  refine V_entry (own := RX10) (by decide) rfl (Nat.le_of_ble_eq_true rfl) ?_
  intro B hB
  refine V_sub (L' := [(0, .ref (Z.2.2.2 99)), (1, .int k_)]) [0, 1] rfl ?_
  refine V_iconst (v := 0) (pc := 0) dX10_numbersOf_0 (by decide) ?_
  refine V_istore_n (pc := 1) (L2 := [(0, .ref (Z.2.2.2 99)), (1, .int k_)]) dX10_numbersOf_1 rfl (by decide) rfl (fun x2_1 ex2_1 => ?_)
  subst ex2_1
  refine V_iconst (v := 0) (pc := 2) dX10_numbersOf_2 (by decide) ?_
  refine V_istore_n (pc := 3) (L2 := [(2, .int 0), (0, .ref (Z.2.2.2 99)), (1, .int k_)]) dX10_numbersOf_3 rfl (by decide) rfl (fun x3_3 ex3_3 => ?_)
  subst ex3_3
  refine V_sub (L' := [(3, .int (nI 0)), (2, .int 0), (0, .ref (Z.2.2.2 99)), (1, .int k_)]) [0, 1, 2, 3] rfl ?_
  refine Vloop (σ := Nat × Int32) (fun x => (x.1) ≤ (S.1 1).toNatClampNeg ∧ (x.2) = nbX S k_ (x.1)) (fun x => (S.1 1).toNatClampNeg - (x.1)) (fun x => V XW Z cX10_numbersOf RX10 5 (some .int) 1 0 0 B 0 0 4 [(3, .int (nI (x.1))), (2, .int (x.2)), (0, .ref (Z.2.2.2 99)), (1, .int k_)] [] (S)) ?_ (0, 0) (by exact ⟨Nat.zero_le _, rfl⟩)
  rintro ⟨j, u⟩ hI4 ih4
  have hI4 : j ≤ (S.1 1).toNatClampNeg ∧ u = nbX S k_ j := hI4
  show V XW Z cX10_numbersOf RX10 5 (some .int) 1 0 0 B 0 0 4 [(3, .int (nI j)), (2, .int u), (0, .ref (Z.2.2.2 99)), (1, .int k_)] [] (S)
  refine V_iload_n (pc := 4) dX10_numbersOf_4 0 rfl rfl ?_
  refine V_aload_n (pc := 5) dX10_numbersOf_5 2 rfl rfl ?_
  refine Xg_X10_17 (pc := 6) (v := (S.1 1)) rfl dX10_numbersOf_6 ?_
  refine V_icmp_ge (pc := 9) (tgt := 45) dX10_numbersOf_9 (by decide) (fun h9 => ?_) (fun h9 => ?_)
  · skip
    have hj : (S.1 1).toNatClampNeg ≤ j := jge h9 (by have := xcnt hx; omega)
    have ej : j = (S.1 1).toNatClampNeg := Nat.le_antisymm hI4.1 hj
    refine V_iload_n (pc := 45) dX10_numbersOf_45 1 rfl rfl ?_
    exact V_iret (pc := 46) dX10_numbersOf_46 (Nat.le_of_ble_eq_true rfl) (Nat.le_of_ble_eq_true rfl) (hB _ _ ⟨congrArg (fun z => some (Value.int z)) (by rw [hI4.2, ej]), by rfl⟩)
  · skip
    have hj : j < (S.1 1).toNatClampNeg := jlt h9 (by have := xcnt hx; omega)
    refine V_aload_n (pc := 12) dX10_numbersOf_12 2 rfl rfl ?_
    refine V_iload_n (pc := 13) dX10_numbersOf_13 0 rfl rfl ?_
    refine V_callV (q0 := 0) (ci := 10) (C := RX10) (T := TX10) (N := 9) (pc := 14) dX10_numbersOf_14 (c_X10_machineAt Z _ _ (by exact hx)) kX10_76 rfl rfl rfl rfl (Nat.le_of_ble_eq_true rfl) (by decide) (by decide) (Nat.le_of_ble_eq_true rfl) (Nat.le_of_ble_eq_true rfl) (fun v14 S14 hp14 => ?_)
    refine V_widen (n' := 0) (k' := 0) (Nat.le_refl _) (Nat.le_refl _) ?_
    obtain ⟨rfl, ⟨ma_, hvma_, hima_, hMma_, hama_, hmma_, rfl⟩ | ⟨hno14, rfl⟩⟩ := hp14
    · skip
      refine V_astore (pc := 17) (L2 := [(3, .int (nI j)), (2, .int u), (0, .ref (Z.2.2.2 99)), (1, .int k_)]) dX10_numbersOf_17 (by decide) rfl (fun x4_17 ex4_17 => ?_)
      subst ex4_17
      refine V_aload (pc := 19) dX10_numbersOf_19 0 rfl ?_
      refine V_ifnull (pc := 21) dX10_numbersOf_21 ?_
      refine V_aload (pc := 24) dX10_numbersOf_24 0 rfl ?_
      refine V_iload_n (pc := 26) dX10_numbersOf_26 4 rfl rfl ?_
      refine V_callSi (pc := 27) dX10_numbersOf_27 (c_X10_isUnder Z _ _ _ (by exact hama_) (by exact hmma_)) kX10_106 rfl (Nat.le_of_ble_eq_true rfl) (by decide) (by decide) (Nat.le_of_ble_eq_true rfl) (Nat.le_of_ble_eq_true rfl) ?_
      refine V_bif_eq (pc := 30) (tgt := 39) dX10_numbersOf_30 (by decide) (fun h30 => ?_) (fun h30 => ?_)
      · skip
        refine V_iinc (pc := 39) (v := 1) (L2 := [(4, .ref (ma_)), (2, .int u), (0, .ref (Z.2.2.2 99)), (1, .int k_)]) dX10_numbersOf_39 1 rfl (by decide) (by decide) rfl (fun x3_39 ex3_39 => ?_)
        rw [nI_1] at ex3_39
        subst ex3_39
        refine V_goto (pc := 42) (tgt := 4) dX10_numbersOf_42 (by decide) ?_
        refine V_sub (L' := [(3, .int (nI (j + 1))), (2, .int u), (0, .ref (Z.2.2.2 99)), (1, .int k_)]) [0, 2, 3, 4] rfl ?_
        refine ih4 (((j + 1)), _) ?_ ?_
        · show ((j + 1)) ≤ (S.1 1).toNatClampNeg ∧ (u) = nbX S k_ ((j + 1))
          refine ⟨hj, ?_⟩
          rw [hI4.2]
          simp only [nbX, it]
          rw [xAd_eq hMma_]
          first | exact (if_pos h30).symm | exact (if_neg h30).symm
        · show (S.1 1).toNatClampNeg - (j + 1) < (S.1 1).toNatClampNeg - j
          omega
      · skip
        refine V_iload_n (pc := 33) dX10_numbersOf_33 2 rfl rfl ?_
        refine V_iconst (v := 1) (pc := 34) dX10_numbersOf_34 (by decide) ?_
        refine V_iload_n (pc := 35) dX10_numbersOf_35 1 rfl rfl ?_
        refine V_ishl (pc := 36) dX10_numbersOf_36 ?_
        refine V_ior (pc := 37) dX10_numbersOf_37 ?_
        refine V_istore_n (pc := 38) (L2 := [(4, .ref (ma_)), (3, .int (nI j)), (0, .ref (Z.2.2.2 99)), (1, .int k_)]) dX10_numbersOf_38 rfl (by decide) rfl (fun x2_38 ex2_38 => ?_)
        subst ex2_38
        refine V_iinc (pc := 39) (v := 1) (L2 := [(2, .int (u ||| (1 <<< ((nI j) &&& 31)))), (4, .ref (ma_)), (0, .ref (Z.2.2.2 99)), (1, .int k_)]) dX10_numbersOf_39 2 rfl (by decide) (by decide) rfl (fun x3_39 ex3_39 => ?_)
        rw [nI_1] at ex3_39
        subst ex3_39
        refine V_goto (pc := 42) (tgt := 4) dX10_numbersOf_42 (by decide) ?_
        refine V_sub (L' := [(3, .int (nI (j + 1))), (2, .int (u ||| (1 <<< ((nI j) &&& 31)))), (0, .ref (Z.2.2.2 99)), (1, .int k_)]) [0, 1, 3, 4] rfl ?_
        refine ih4 (((j + 1)), _) ?_ ?_
        · show ((j + 1)) ≤ (S.1 1).toNatClampNeg ∧ ((u ||| (1 <<< ((nI j) &&& 31)))) = nbX S k_ ((j + 1))
          refine ⟨hj, ?_⟩
          rw [hI4.2]
          simp only [nbX, it]
          rw [xAd_eq hMma_]
          first | exact (if_pos h30).symm | exact (if_neg h30).symm
        · show (S.1 1).toNatClampNeg - (j + 1) < (S.1 1).toNatClampNeg - j
          omega
    · skip
      exact absurd ⟨nI_pos' (by have := xcnt hx; omega), Int32.not_le.mp h9⟩ hno14
set_option maxHeartbeats 4000000 in
set_option maxRecDepth 100000 in
theorem c_X10_count (Z : VZ) (S : XS) (w_ : Int32) (hx : xOK S) : CtF XW Z yX10_count cX10_count 2 (some .int) 2 0 0 [.ref (Z.2.2.2 99), .int w_] (S) (some (.int (if w_ = 0 then S.1 1 else if w_ = 1 then S.1 31 else if w_ = 2 then clX S 0 (S.1 1).toNatClampNeg else if w_ = 3 then nbX S 1 (S.1 1).toNatClampNeg else if w_ = 4 then clX S 5 (S.1 1).toNatClampNeg else -2))) (S) := by
  refine V_entry (own := RX10) (by decide) rfl (Nat.le_of_ble_eq_true rfl) ?_
  intro B hB
  refine V_sub (L' := [(0, .ref (Z.2.2.2 99)), (1, .int w_)]) [0, 1] rfl ?_
  refine V_iload_n (pc := 0) dX10_count_0 1 rfl rfl ?_
  by_cases h1_0 : w_ = 0
  · refine V_eqi 0 h1_0 ?_
    refine V_tableIn (pc := 1) (tgt := 36) dX10_count_1 (by decide) (by decide) rfl (by decide) ?_
    refine V_aload_n (pc := 36) dX10_count_36 0 rfl rfl ?_
    refine Xg_X10_17 (pc := 37) (v := (S.1 1)) rfl dX10_count_37 ?_
    exact V_iret (pc := 40) dX10_count_40 (Nat.le_of_ble_eq_true rfl) (Nat.le_of_ble_eq_true rfl) (hB _ _ ⟨congrArg (fun z => some (Value.int z)) (by simp [*]), by rfl⟩)
  by_cases h1_1 : w_ = 1
  · refine V_eqi 1 h1_1 ?_
    refine V_tableIn (pc := 1) (tgt := 41) dX10_count_1 (by decide) (by decide) rfl (by decide) ?_
    refine V_aload_n (pc := 41) dX10_count_41 0 rfl rfl ?_
    refine Xg_X10_37 (pc := 42) dX10_count_42 ?_
    refine Xg_X10_242 (pc := 45) (v := (S.1 31)) rfl dX10_count_45 ?_
    exact V_iret (pc := 48) dX10_count_48 (Nat.le_of_ble_eq_true rfl) (Nat.le_of_ble_eq_true rfl) (hB _ _ ⟨congrArg (fun z => some (Value.int z)) (by simp [*]), by rfl⟩)
  by_cases h1_2 : w_ = 2
  · refine V_eqi 2 h1_2 ?_
    refine V_tableIn (pc := 1) (tgt := 49) dX10_count_1 (by decide) (by decide) rfl (by decide) ?_
    refine V_aload_n (pc := 49) dX10_count_49 0 rfl rfl ?_
    refine V_iconst (v := 0) (pc := 50) dX10_count_50 (by decide) ?_
    refine V_callVi (q0 := 0) (ci := 10) (C := RX10) (T := TX10) (N := 9) (pc := 51) dX10_count_51 (c_X10_cellsOf Z _ _ (by exact hx)) kX10_278 rfl rfl rfl rfl (Nat.le_of_ble_eq_true rfl) (by decide) (by decide) (Nat.le_of_ble_eq_true rfl) (Nat.le_of_ble_eq_true rfl) ?_
    exact V_iret (pc := 54) dX10_count_54 (Nat.le_of_ble_eq_true rfl) (Nat.le_of_ble_eq_true rfl) (hB _ _ ⟨congrArg (fun z => some (Value.int z)) (by simp [*]), by rfl⟩)
  by_cases h1_3 : w_ = 3
  · refine V_eqi 3 h1_3 ?_
    refine V_tableIn (pc := 1) (tgt := 55) dX10_count_1 (by decide) (by decide) rfl (by decide) ?_
    refine V_aload_n (pc := 55) dX10_count_55 0 rfl rfl ?_
    refine V_iconst (v := 1) (pc := 56) dX10_count_56 (by decide) ?_
    refine V_callVi (q0 := 0) (ci := 10) (C := RX10) (T := TX10) (N := 9) (pc := 57) dX10_count_57 (c_X10_numbersOf Z _ _ (by exact hx)) kX10_281 rfl rfl rfl rfl (Nat.le_of_ble_eq_true rfl) (by decide) (by decide) (Nat.le_of_ble_eq_true rfl) (Nat.le_of_ble_eq_true rfl) ?_
    exact V_iret (pc := 60) dX10_count_60 (Nat.le_of_ble_eq_true rfl) (Nat.le_of_ble_eq_true rfl) (hB _ _ ⟨congrArg (fun z => some (Value.int z)) (by simp [*]), by rfl⟩)
  by_cases h1_4 : w_ = 4
  · refine V_eqi 4 h1_4 ?_
    refine V_tableIn (pc := 1) (tgt := 61) dX10_count_1 (by decide) (by decide) rfl (by decide) ?_
    refine V_aload_n (pc := 61) dX10_count_61 0 rfl rfl ?_
    refine V_iconst (v := 5) (pc := 62) dX10_count_62 (by decide) ?_
    refine V_callVi (q0 := 0) (ci := 10) (C := RX10) (T := TX10) (N := 9) (pc := 63) dX10_count_63 (c_X10_cellsOf Z _ _ (by exact hx)) kX10_278 rfl rfl rfl rfl (Nat.le_of_ble_eq_true rfl) (by decide) (by decide) (Nat.le_of_ble_eq_true rfl) (Nat.le_of_ble_eq_true rfl) ?_
    exact V_iret (pc := 66) dX10_count_66 (Nat.le_of_ble_eq_true rfl) (Nat.le_of_ble_eq_true rfl) (hB _ _ ⟨congrArg (fun z => some (Value.int z)) (by simp [*]), by rfl⟩)
  refine V_tableOut (pc := 1) (tgt := 67) dX10_count_1 (by have a0 := lv_neT h1_0 (a := 0) rfl; have a1 := lv_neT h1_1 (a := 1) rfl; have a2 := lv_neT h1_2 (a := 2) rfl; have a3 := lv_neT h1_3 (a := 3) rfl; have a4 := lv_neT h1_4 (a := 4) rfl; omega) (by decide) ?_
  refine V_bipush (v := (-2)) (pc := 67) dX10_count_67 (by decide) ?_
  exact V_iret (pc := 69) dX10_count_69 (Nat.le_of_ble_eq_true rfl) (Nat.le_of_ble_eq_true rfl) (hB _ _ ⟨congrArg (fun z => some (Value.int z)) (by simp [*]), by rfl⟩)
set_option maxHeartbeats 4000000 in
set_option maxRecDepth 100000 in
theorem c_X10_imageOne (Z : VZ) (S : XS) (j_ : Nat) (a_ : Nat) (hj : j_ < 4) (ha : a_ ∈ xL S) (hm : mcl (xmk S a_)) : CtF XW Z yX10_imageOne cX10_imageOne 3 none 1 0 0 [.ref (Z.2.2.2 99), .ref (a_), .int (nI (5 * j_))] (S) none (xA S 2 (im5 (S.2.2.1 2) (5 * j_) (mfo S a_))) := by
  refine V_entry (own := RX10) (by decide) rfl (Nat.le_of_ble_eq_true rfl) ?_
  intro B hB
  refine V_sub (L' := [(0, .ref (Z.2.2.2 99)), (1, .ref (a_)), (2, .int (nI (5 * j_)))]) [0, 1, 2] rfl ?_
  refine V_aload_n (pc := 0) dX10_imageOne_0 1 rfl rfl ?_
  refine V_ifnull (pc := 1) dX10_imageOne_1 ?_
  refine V_iload_n (pc := 4) dX10_imageOne_4 2 rfl rfl ?_
  refine V_iconst (v := 0) (pc := 5) dX10_imageOne_5 (by decide) ?_
  refine V_aload_n (pc := 6) dX10_imageOne_6 0 rfl rfl ?_
  refine Xg_X10_21 (pc := 7) dX10_imageOne_7 ?_
  refine Xn_2 (pc := 10) dX10_imageOne_10 ?_
  refine V_iconst (v := 5) (pc := 11) dX10_imageOne_11 (by decide) ?_
  refine V_isub (pc := 12) dX10_imageOne_12 ?_
  refine V_callSi (pc := 13) dX10_imageOne_13 (c_X10_between Z _ _ _ _) kX10_60 rfl (Nat.le_of_ble_eq_true rfl) (by decide) (by decide) (Nat.le_of_ble_eq_true rfl) (Nat.le_of_ble_eq_true rfl) ?_
  refine V_bif_ne (pc := 16) (tgt := 20) dX10_imageOne_16 (by decide) (fun h16 => ?_) (fun h16 => ?_)
  · skip
    refine V_aload_n (pc := 20) dX10_imageOne_20 0 rfl rfl ?_
    refine Xg_X10_21 (pc := 21) dX10_imageOne_21 ?_
    refine V_iload_n (pc := 24) dX10_imageOne_24 2 rfl rfl ?_
    refine V_aload_n (pc := 25) dX10_imageOne_25 1 rfl rfl ?_
    refine Xmg_kind (pc := 26) (v := (mfo S a_ 0)) (by exact ha) (by exact hm) rfl dX10_imageOne_26 tw_198 (Or.inl rfl) ?_
    refine Xs_2 (pc := 29) dX10_imageOne_29 (by exact vp_in_nI (by omega) (by decide)) ?_
    refine V_eqS (xA S 2 (upd (S.2.2.1 2) (5 * j_) (mfo S a_ 0))) (by rw [nI_clamp (by omega)]) ?_
    refine V_aload_n (pc := 30) dX10_imageOne_30 0 rfl rfl ?_
    refine Xg_X10_21 (pc := 31) dX10_imageOne_31 ?_
    refine V_iload_n (pc := 34) dX10_imageOne_34 2 rfl rfl ?_
    refine V_iconst (v := 1) (pc := 35) dX10_imageOne_35 (by decide) ?_
    refine V_iadd (pc := 36) dX10_imageOne_36 ?_
    refine V_aload_n (pc := 37) dX10_imageOne_37 1 rfl rfl ?_
    refine Xmg_cells (pc := 38) (v := (mfo S a_ 1)) (by exact ha) (by exact hm) rfl dX10_imageOne_38 tw_202 (Or.inl rfl) ?_
    refine Xs_2 (pc := 41) dX10_imageOne_41 (by exact in5a (k := 1) hj (by decide)) ?_
    refine V_eqS (xA S 2 (upd (upd (S.2.2.1 2) (5 * j_) (mfo S a_ 0)) (5 * j_ + 1) (mfo S a_ 1))) (by refine (xA_xA _ 2 _ _).trans ?_; rw [xA_at, show (1 : Int32) = nI 1 from rfl, nI5a hj (by decide)]) ?_
    refine V_aload_n (pc := 42) dX10_imageOne_42 0 rfl rfl ?_
    refine Xg_X10_21 (pc := 43) dX10_imageOne_43 ?_
    refine V_iload_n (pc := 46) dX10_imageOne_46 2 rfl rfl ?_
    refine V_iconst (v := 2) (pc := 47) dX10_imageOne_47 (by decide) ?_
    refine V_iadd (pc := 48) dX10_imageOne_48 ?_
    refine V_aload_n (pc := 49) dX10_imageOne_49 1 rfl rfl ?_
    refine Xmg_taps (pc := 50) (v := (mfo S a_ 2)) (by exact ha) (by exact hm) rfl dX10_imageOne_50 tw_206 (Or.inl rfl) ?_
    refine Xs_2 (pc := 53) dX10_imageOne_53 (by exact in5a (k := 2) hj (by decide)) ?_
    refine V_eqS (xA S 2 (upd (upd (upd (S.2.2.1 2) (5 * j_) (mfo S a_ 0)) (5 * j_ + 1) (mfo S a_ 1)) (5 * j_ + 2) (mfo S a_ 2))) (by refine (xA_xA _ 2 _ _).trans ?_; rw [xA_at, show (2 : Int32) = nI 2 from rfl, nI5a hj (by decide)]) ?_
    refine V_aload_n (pc := 54) dX10_imageOne_54 0 rfl rfl ?_
    refine Xg_X10_21 (pc := 55) dX10_imageOne_55 ?_
    refine V_iload_n (pc := 58) dX10_imageOne_58 2 rfl rfl ?_
    refine V_iconst (v := 3) (pc := 59) dX10_imageOne_59 (by decide) ?_
    refine V_iadd (pc := 60) dX10_imageOne_60 ?_
    refine V_aload_n (pc := 61) dX10_imageOne_61 1 rfl rfl ?_
    refine Xmg_state (pc := 62) (v := (mfo S a_ 3)) (by exact ha) (by exact hm) rfl dX10_imageOne_62 tw_210 (Or.inl rfl) ?_
    refine Xs_2 (pc := 65) dX10_imageOne_65 (by exact in5a (k := 3) hj (by decide)) ?_
    refine V_eqS (xA S 2 (upd (upd (upd (upd (S.2.2.1 2) (5 * j_) (mfo S a_ 0)) (5 * j_ + 1) (mfo S a_ 1)) (5 * j_ + 2) (mfo S a_ 2)) (5 * j_ + 3) (mfo S a_ 3))) (by refine (xA_xA _ 2 _ _).trans ?_; rw [xA_at, show (3 : Int32) = nI 3 from rfl, nI5a hj (by decide)]) ?_
    refine V_aload_n (pc := 66) dX10_imageOne_66 0 rfl rfl ?_
    refine Xg_X10_21 (pc := 67) dX10_imageOne_67 ?_
    refine V_iload_n (pc := 70) dX10_imageOne_70 2 rfl rfl ?_
    refine V_iconst (v := 4) (pc := 71) dX10_imageOne_71 (by decide) ?_
    refine V_iadd (pc := 72) dX10_imageOne_72 ?_
    refine V_aload_n (pc := 73) dX10_imageOne_73 1 rfl rfl ?_
    refine Xmg_carry (pc := 74) (v := (mfo S a_ 4)) (by exact ha) (by exact hm) rfl dX10_imageOne_74 tw_218 (Or.inl rfl) ?_
    refine Xs_2 (pc := 77) dX10_imageOne_77 (by exact in5a (k := 4) hj (by decide)) ?_
    refine V_eqS (xA S 2 (upd (upd (upd (upd (upd (S.2.2.1 2) (5 * j_) (mfo S a_ 0)) (5 * j_ + 1) (mfo S a_ 1)) (5 * j_ + 2) (mfo S a_ 2)) (5 * j_ + 3) (mfo S a_ 3)) (5 * j_ + 4) (mfo S a_ 4))) (by refine (xA_xA _ 2 _ _).trans ?_; rw [xA_at, show (4 : Int32) = nI 4 from rfl, nI5a hj (by decide)]) ?_
    exact V_vret (pc := 78) dX10_imageOne_78 (Nat.le_of_ble_eq_true rfl) (Nat.le_of_ble_eq_true rfl) (hB _ _ ⟨rfl, by rfl⟩)
  · skip
    exact absurd (in5b hj) h16
set_option maxHeartbeats 4000000 in
set_option maxRecDepth 100000 in
theorem c_X10_image (Z : VZ) (S : XS) (hx : xOK S) : CtF XW Z yX10_image cX10_image 2 (some .int) 2 0 0 [.ref (Z.2.2.2 99)] (S) (some (.int (S.1 1))) (xF (xA S 2 (imgX S (S.1 1).toNatClampNeg)) 3 (S.1 1)) := by
  refine V_entry (own := RX10) (by decide) rfl (Nat.le_of_ble_eq_true rfl) ?_
  intro B hB
  refine V_sub (L' := [(0, .ref (Z.2.2.2 99))]) [0] rfl ?_
  refine V_iconst (v := 0) (pc := 0) dX10_image_0 (by decide) ?_
  refine V_istore_n (pc := 1) (L2 := [(0, .ref (Z.2.2.2 99))]) dX10_image_1 rfl (by decide) rfl (fun x1_1 ex1_1 => ?_)
  subst ex1_1
  refine V_eqS _ (xA_self S 2) ?_
  have xc := xcnt hx
  refine V_sub (L' := [(1, .int (nI 0)), (0, .ref (Z.2.2.2 99))]) [0, 1] rfl ?_
  refine Vloop (σ := Nat) (fun x => x ≤ (S.1 1).toNatClampNeg) (fun x => (S.1 1).toNatClampNeg - x) (fun x => V XW Z cX10_image RX10 2 (some .int) 2 0 0 B 0 0 2 [(1, .int (nI x)), (0, .ref (Z.2.2.2 99))] [] (xA S 2 (imgX S x))) ?_ 0 (by exact Nat.zero_le _)
  rintro j hI2 ih2
  have hI2 : j ≤ (S.1 1).toNatClampNeg := hI2
  show V XW Z cX10_image RX10 2 (some .int) 2 0 0 B 0 0 2 [(1, .int (nI j)), (0, .ref (Z.2.2.2 99))] [] (xA S 2 (imgX S j))
  refine V_iload_n (pc := 2) dX10_image_2 0 rfl rfl ?_
  refine V_aload_n (pc := 3) dX10_image_3 1 rfl rfl ?_
  refine Xg_X10_17 (pc := 4) (v := (S.1 1)) rfl dX10_image_4 ?_
  refine V_icmp_ge (pc := 7) (tgt := 28) dX10_image_7 (by decide) (fun h7 => ?_) (fun h7 => ?_)
  · skip
    have hj : (S.1 1).toNatClampNeg ≤ j := jge h7 (by omega)
    have ej : j = (S.1 1).toNatClampNeg := Nat.le_antisymm hI2 hj
    refine V_aload_n (pc := 28) dX10_image_28 1 rfl rfl ?_
    refine V_aload_n (pc := 29) dX10_image_29 1 rfl rfl ?_
    refine Xg_X10_17 (pc := 30) (v := (S.1 1)) rfl dX10_image_30 ?_
    refine Xp_X10_25 (pc := 33) dX10_image_33 ?_
    refine V_aload_n (pc := 36) dX10_image_36 1 rfl rfl ?_
    refine Xg_X10_17 (pc := 37) (v := (S.1 1)) rfl dX10_image_37 ?_
    exact V_iret (pc := 40) dX10_image_40 (Nat.le_of_ble_eq_true rfl) (Nat.le_of_ble_eq_true rfl) (hB _ _ ⟨congrArg (fun z => some (Value.int z)) (by first | rfl | assumption | (simp_all; done)), by rw [ej]⟩)
  · skip
    have hj : j < (S.1 1).toNatClampNeg := jlt h7 (by omega)
    refine V_aload_n (pc := 10) dX10_image_10 1 rfl rfl ?_
    refine V_aload_n (pc := 11) dX10_image_11 1 rfl rfl ?_
    refine V_iload_n (pc := 12) dX10_image_12 0 rfl rfl ?_
    refine V_callV (q0 := 0) (ci := 10) (C := RX10) (T := TX10) (N := 9) (pc := 13) dX10_image_13 (c_X10_machineAt Z _ _ (by exact hx)) kX10_76 rfl rfl rfl rfl (Nat.le_of_ble_eq_true rfl) (by decide) (by decide) (Nat.le_of_ble_eq_true rfl) (Nat.le_of_ble_eq_true rfl) (fun v13 S13 hp13 => ?_)
    refine V_widen (n' := 0) (k' := 0) (Nat.le_refl _) (Nat.le_refl _) ?_
    obtain ⟨rfl, ⟨ma_, hvma_, hima_, hMma_, hama_, hmma_, rfl⟩ | ⟨hno13, rfl⟩⟩ := hp13
    · skip
      refine V_iload_n (pc := 16) dX10_image_16 0 rfl rfl ?_
      refine V_iconst (v := 5) (pc := 17) dX10_image_17 (by decide) ?_
      refine V_imul (pc := 18) dX10_image_18 ?_
      refine V_eqi (nI (5 * j)) (nI5 j) ?_
      refine V_callVv (q0 := 0) (ci := 10) (C := RX10) (T := TX10) (N := 9) (pc := 19) dX10_image_19 (c_X10_imageOne Z _ _ _ (by omega) (by exact hama_) (by exact hmma_)) kX10_255 rfl rfl rfl rfl (Nat.le_of_ble_eq_true rfl) (by decide) (by decide) (Nat.le_of_ble_eq_true rfl) (Nat.le_of_ble_eq_true rfl) ?_
      refine V_eqS (xA S 2 (imgX S (j + 1))) (by refine (xA_xA _ 2 _ _).trans ?_; rw [xA_at]; refine congrArg (xA S 2) ?_; show _ = im5 (imgX S j) (5 * j) (mfo S (xAd S (nI j))); rw [show xAd S (nI j) = ma_ from xAd_eq hMma_]) ?_
      refine V_iinc (pc := 22) (v := 1) (L2 := [(0, .ref (Z.2.2.2 99))]) dX10_image_22 0 rfl (by decide) (by decide) rfl (fun x1_22 ex1_22 => ?_)
      rw [nI_1] at ex1_22
      subst ex1_22
      refine V_goto (pc := 25) (tgt := 2) dX10_image_25 (by decide) ?_
      refine V_sub (L' := [(1, .int (nI (j + 1))), (0, .ref (Z.2.2.2 99))]) [0, 1] rfl ?_
      refine ih2 ((j + 1)) ?_ ?_
      · show ((j + 1)) ≤ (S.1 1).toNatClampNeg
        exact hj
      · show (S.1 1).toNatClampNeg - (j + 1) < (S.1 1).toNatClampNeg - j
        omega
    · skip
      exact absurd ⟨nI_pos' (by omega), Int32.not_le.mp h7⟩ hno13
set_option maxHeartbeats 4000000 in
set_option maxRecDepth 100000 in
theorem c_X10_imagedAt (Z : VZ) (S : XS) (j_ : Nat) (hj : j_ < 4) : Ct XW Z yX10_imagedAt cX10_imagedAt 2 (some (.object "CarryShifts$Carrying")) 6 1 6 [.ref (Z.2.2.2 99), .int (nI (5 * j_))] (S) (fun v S' => ∃ q, v = some (.ref q) ∧ q ∉ xL S ∧ S' = xN S q (kc (S.2.2.1 2 (5 * j_))) (gM (S.2.2.1 2 (5 * j_)) (S.2.2.1 2 (5 * j_ + 1)) (S.2.2.1 2 (5 * j_ + 2)) (S.2.2.1 2 (5 * j_ + 3)) (S.2.2.1 2 (5 * j_ + 4)))) := by
  refine V_entry (own := RX10) (by decide) rfl (Nat.le_of_ble_eq_true rfl) ?_
  intro B hB
  refine V_sub (L' := [(0, .ref (Z.2.2.2 99)), (1, .int (nI (5 * j_)))]) [0, 1] rfl ?_
  refine V_iload_n (pc := 0) dX10_imagedAt_0 1 rfl rfl ?_
  refine V_iconst (v := 0) (pc := 1) dX10_imagedAt_1 (by decide) ?_
  refine V_aload_n (pc := 2) dX10_imagedAt_2 0 rfl rfl ?_
  refine Xg_X10_21 (pc := 3) dX10_imagedAt_3 ?_
  refine Xn_2 (pc := 6) dX10_imagedAt_6 ?_
  refine V_iconst (v := 5) (pc := 7) dX10_imagedAt_7 (by decide) ?_
  refine V_isub (pc := 8) dX10_imagedAt_8 ?_
  refine V_callSi (pc := 9) dX10_imagedAt_9 (c_X10_between Z _ _ _ _) kX10_60 rfl (Nat.le_of_ble_eq_true rfl) (by decide) (by decide) (Nat.le_of_ble_eq_true rfl) (Nat.le_of_ble_eq_true rfl) ?_
  refine V_bif_ne (pc := 12) (tgt := 17) dX10_imagedAt_12 (by decide) (fun h12 => ?_) (fun h12 => ?_)
  · skip
    refine V_aload_n (pc := 17) dX10_imagedAt_17 0 rfl rfl ?_
    refine Xg_X10_21 (pc := 18) dX10_imagedAt_18 ?_
    refine V_iload_n (pc := 21) dX10_imagedAt_21 1 rfl rfl ?_
    refine Xl_2 (pc := 22) dX10_imagedAt_22 (by exact vp_in_nI (by omega) (by decide)) ?_
    refine V_aload_n (pc := 23) dX10_imagedAt_23 0 rfl rfl ?_
    refine Xg_X10_21 (pc := 24) dX10_imagedAt_24 ?_
    refine V_iload_n (pc := 27) dX10_imagedAt_27 1 rfl rfl ?_
    refine V_iconst (v := 1) (pc := 28) dX10_imagedAt_28 (by decide) ?_
    refine V_iadd (pc := 29) dX10_imagedAt_29 ?_
    refine Xl_2 (pc := 30) dX10_imagedAt_30 (by exact in5a (k := 1) hj (by decide)) ?_
    refine V_aload_n (pc := 31) dX10_imagedAt_31 0 rfl rfl ?_
    refine Xg_X10_21 (pc := 32) dX10_imagedAt_32 ?_
    refine V_iload_n (pc := 35) dX10_imagedAt_35 1 rfl rfl ?_
    refine V_iconst (v := 2) (pc := 36) dX10_imagedAt_36 (by decide) ?_
    refine V_iadd (pc := 37) dX10_imagedAt_37 ?_
    refine Xl_2 (pc := 38) dX10_imagedAt_38 (by exact in5a (k := 2) hj (by decide)) ?_
    refine V_aload_n (pc := 39) dX10_imagedAt_39 0 rfl rfl ?_
    refine Xg_X10_21 (pc := 40) dX10_imagedAt_40 ?_
    refine V_iload_n (pc := 43) dX10_imagedAt_43 1 rfl rfl ?_
    refine V_iconst (v := 3) (pc := 44) dX10_imagedAt_44 (by decide) ?_
    refine V_iadd (pc := 45) dX10_imagedAt_45 ?_
    refine Xl_2 (pc := 46) dX10_imagedAt_46 (by exact in5a (k := 3) hj (by decide)) ?_
    refine V_aload_n (pc := 47) dX10_imagedAt_47 0 rfl rfl ?_
    refine Xg_X10_21 (pc := 48) dX10_imagedAt_48 ?_
    refine V_iload_n (pc := 51) dX10_imagedAt_51 1 rfl rfl ?_
    refine V_iconst (v := 4) (pc := 52) dX10_imagedAt_52 (by decide) ?_
    refine V_iadd (pc := 53) dX10_imagedAt_53 ?_
    refine Xl_2 (pc := 54) dX10_imagedAt_54 (by exact in5a (k := 4) hj (by decide)) ?_
    refine V_callS (pc := 55) dX10_imagedAt_55 (c_X10_made Z _ _ _ _ _ _) kX10_68 rfl (Nat.le_of_ble_eq_true rfl) (by decide) (by decide) (Nat.le_of_ble_eq_true rfl) (Nat.le_of_ble_eq_true rfl) (fun v55 S55 hp55 => ?_)
    refine V_widen (n' := 1) (k' := 6) (Nat.le_refl _) (Nat.le_refl _) ?_
    obtain ⟨q_, rfl, hq_, rfl⟩ := hp55
    exact V_aret (pc := 58) dX10_imagedAt_58 (Nat.le_of_ble_eq_true rfl) (Nat.le_of_ble_eq_true rfl) (Or.inl ⟨_, rfl⟩) (Or.inr ⟨_, rfl⟩) (hB _ _ (by refine ⟨q_, rfl, hq_, ?_⟩; rw [nI_clamp (by omega), show (1 : Int32) = nI 1 from rfl, show (2 : Int32) = nI 2 from rfl, show (3 : Int32) = nI 3 from rfl, show (4 : Int32) = nI 4 from rfl, nI5a hj (by decide), nI5a hj (by decide), nI5a hj (by decide), nI5a hj (by decide)]))
  · skip
    exact absurd (in5b hj) h12
