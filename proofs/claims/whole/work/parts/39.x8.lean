/-- the machines' row with another machine at a place -/
def xR (S : XS) (i : Nat) (q : Nat) : XS := (S.1, S.2.1, S.2.2.1, S.2.2.2.1, va_up S.2.2.2.2.1 i (some q), S.2.2.2.2.2)
theorem mfoN_ne {S : XS} {q a c : Nat} {g : Nat → Int32} (hq : q ∉ xL S) (ha : a ∈ xL S) (j : Nat) : (xN S q c g).2.2.2.2.2.2.2 a j = mfo S a j := by
  have hne : a ≠ q := fun z => hq (z ▸ ha)
  show va_up S.2.2.2.2.2.2.2 q g a j = _
  rw [va_up_ne _ _ hne]
theorem mclN_ne {S : XS} {q a c : Nat} {g : Nat → Int32} (hq : q ∉ xL S) (ha : a ∈ xL S) (hm : mcl (xmk S a)) : mcl (xmk (xN S q c g) a) := by
  have hne : a ≠ q := fun z => hq (z ▸ ha)
  show mcl (va_up S.2.2.2.2.2.2.1 q c a)
  rw [va_up_ne _ _ hne]
  exact hm
theorem in03 {i : Int32} (h : vp_in i 4) : 0 ≤ i ∧ i ≤ 4 - 1 := by
  obtain ⟨j, hj, rfl⟩ := vp_in_of h (by decide)
  exact ⟨nI_pos' (by omega), nI_le (b := 3) (by omega) (by decide)⟩
set_option maxHeartbeats 4000000 in
set_option maxRecDepth 100000 in
theorem c_X10_becomeState (Z : VZ) (S : XS) (a_ : Nat) (v_ : Int32) (ha : a_ ∈ xL S) (hm : mcl (xmk S a_)) : CtF XW Z yX10_becomeState cX10_becomeState 4 (some .int) 1 0 0 [.ref (Z.2.2.2 99), .ref (a_), .int v_] (S) (some (.int (if (0 ≤ v_ ∧ v_ ≤ 1 <<< (mfo S a_ 1 &&& 31) - 1) then mfo S a_ 3 else -1000))) (if (0 ≤ v_ ∧ v_ ≤ 1 <<< (mfo S a_ 1 &&& 31) - 1) then xM S a_ (upd (mfo S a_) 3 v_) else S) := by
  refine V_entry (own := RX10) (by decide) rfl (Nat.le_of_ble_eq_true rfl) ?_
  intro B hB
  refine V_sub (L' := [(0, .ref (Z.2.2.2 99)), (1, .ref (a_)), (2, .int v_)]) [0, 1, 2] rfl ?_
  refine V_iload_n (pc := 0) dX10_becomeState_0 2 rfl rfl ?_
  refine V_iconst (v := 0) (pc := 1) dX10_becomeState_1 (by decide) ?_
  refine V_aload_n (pc := 2) dX10_becomeState_2 1 rfl rfl ?_
  refine Xmg_cells (pc := 3) (v := (mfo S a_ 1)) (by exact ha) (by exact hm) rfl dX10_becomeState_3 tw_205 (Or.inl rfl) ?_
  refine V_callSi (pc := 6) dX10_becomeState_6 (c_X10_allCells Z _ _) kX10_64 rfl (Nat.le_of_ble_eq_true rfl) (by decide) (by decide) (Nat.le_of_ble_eq_true rfl) (Nat.le_of_ble_eq_true rfl) ?_
  refine V_callSi (pc := 9) dX10_becomeState_9 (c_X10_between Z _ _ _ _) kX10_60 rfl (Nat.le_of_ble_eq_true rfl) (by decide) (by decide) (Nat.le_of_ble_eq_true rfl) (Nat.le_of_ble_eq_true rfl) ?_
  refine V_bif_ne (pc := 12) (tgt := 19) dX10_becomeState_12 (by decide) (fun h12 => ?_) (fun h12 => ?_)
  · skip
    refine V_aload_n (pc := 19) dX10_becomeState_19 1 rfl rfl ?_
    refine Xmg_state (pc := 20) (v := (mfo S a_ 3)) (by exact ha) (by exact hm) rfl dX10_becomeState_20 tw_213 (Or.inl rfl) ?_
    refine V_istore_n (pc := 23) (L2 := [(0, .ref (Z.2.2.2 99)), (1, .ref (a_)), (2, .int v_)]) dX10_becomeState_23 rfl (by decide) rfl (fun x3_23 ex3_23 => ?_)
    subst ex3_23
    refine V_aload_n (pc := 24) dX10_becomeState_24 2 rfl rfl ?_
    refine V_iload_n (pc := 25) dX10_becomeState_25 3 rfl rfl ?_
    refine Xmp_state (pc := 26) (by exact ha) (by exact hm) dX10_becomeState_26 tw_213 (Or.inl rfl) ?_
    refine V_iload_n (pc := 29) dX10_becomeState_29 0 rfl rfl ?_
    exact V_iret (pc := 30) dX10_becomeState_30 (Nat.le_of_ble_eq_true rfl) (Nat.le_of_ble_eq_true rfl) (hB _ _ ⟨congrArg (fun z => some (Value.int z)) (by exact (if_pos h12).symm), by exact (if_pos h12).symm⟩)
  · skip
    refine V_sipush (v := (-1000)) (pc := 15) dX10_becomeState_15 (by decide) ?_
    exact V_iret (pc := 18) dX10_becomeState_18 (Nat.le_of_ble_eq_true rfl) (Nat.le_of_ble_eq_true rfl) (hB _ _ ⟨congrArg (fun z => some (Value.int z)) (by exact (if_neg h12).symm), by exact (if_neg h12).symm⟩)
set_option maxHeartbeats 4000000 in
set_option maxRecDepth 100000 in
theorem c_X10_becomeCarry (Z : VZ) (S : XS) (a_ : Nat) (v_ : Int32) (ha : a_ ∈ xL S) (hm : mcl (xmk S a_)) : CtF XW Z yX10_becomeCarry cX10_becomeCarry 4 (some .int) 1 0 0 [.ref (Z.2.2.2 99), .ref (a_), .int v_] (S) (some (.int (if (-9 ≤ v_ ∧ v_ ≤ 9) then mfo S a_ 4 else -1000))) (if (-9 ≤ v_ ∧ v_ ≤ 9) then xM S a_ (upd (mfo S a_) 4 v_) else S) := by
  refine V_entry (own := RX10) (by decide) rfl (Nat.le_of_ble_eq_true rfl) ?_
  intro B hB
  refine V_sub (L' := [(0, .ref (Z.2.2.2 99)), (1, .ref (a_)), (2, .int v_)]) [0, 1, 2] rfl ?_
  refine V_iload_n (pc := 0) dX10_becomeCarry_0 2 rfl rfl ?_
  refine V_bipush (v := (-9)) (pc := 1) dX10_becomeCarry_1 (by decide) ?_
  refine V_bipush (v := 9) (pc := 3) dX10_becomeCarry_3 (by decide) ?_
  refine V_callSi (pc := 5) dX10_becomeCarry_5 (c_X10_between Z _ _ _ _) kX10_60 rfl (Nat.le_of_ble_eq_true rfl) (by decide) (by decide) (Nat.le_of_ble_eq_true rfl) (Nat.le_of_ble_eq_true rfl) ?_
  refine V_bif_ne (pc := 8) (tgt := 15) dX10_becomeCarry_8 (by decide) (fun h8 => ?_) (fun h8 => ?_)
  · skip
    refine V_aload_n (pc := 15) dX10_becomeCarry_15 1 rfl rfl ?_
    refine Xmg_carry (pc := 16) (v := (mfo S a_ 4)) (by exact ha) (by exact hm) rfl dX10_becomeCarry_16 tw_221 (Or.inl rfl) ?_
    refine V_istore_n (pc := 19) (L2 := [(0, .ref (Z.2.2.2 99)), (1, .ref (a_)), (2, .int v_)]) dX10_becomeCarry_19 rfl (by decide) rfl (fun x3_19 ex3_19 => ?_)
    subst ex3_19
    refine V_aload_n (pc := 20) dX10_becomeCarry_20 2 rfl rfl ?_
    refine V_iload_n (pc := 21) dX10_becomeCarry_21 3 rfl rfl ?_
    refine Xmp_carry (pc := 22) (by exact ha) (by exact hm) dX10_becomeCarry_22 tw_221 (Or.inl rfl) ?_
    refine V_iload_n (pc := 25) dX10_becomeCarry_25 0 rfl rfl ?_
    exact V_iret (pc := 26) dX10_becomeCarry_26 (Nat.le_of_ble_eq_true rfl) (Nat.le_of_ble_eq_true rfl) (hB _ _ ⟨congrArg (fun z => some (Value.int z)) (by exact (if_pos h8).symm), by exact (if_pos h8).symm⟩)
  · skip
    refine V_sipush (v := (-1000)) (pc := 11) dX10_becomeCarry_11 (by decide) ?_
    exact V_iret (pc := 14) dX10_becomeCarry_14 (Nat.le_of_ble_eq_true rfl) (Nat.le_of_ble_eq_true rfl) (hB _ _ ⟨congrArg (fun z => some (Value.int z)) (by exact (if_neg h8).symm), by exact (if_neg h8).symm⟩)
set_option maxHeartbeats 4000000 in
set_option maxRecDepth 100000 in
theorem c_X10_becomeTaps (Z : VZ) (S : XS) (i_ : Int32) (a_ : Nat) (v_ : Int32) (hi : vp_in i_ 4) (ha : a_ ∈ xL S) (hm : mcl (xmk S a_)) : Ct XW Z yX10_becomeTaps cX10_becomeTaps 4 (some .int) 7 1 6 [.ref (Z.2.2.2 99), .int i_, .ref (a_), .int v_] (S) (fun v S' => v = some (.int (if (1 ≤ v_ ∧ v_ ≤ 1 <<< (mfo S a_ 1 &&& 31) - 1) then mfo S a_ 2 else -1000)) ∧ ((¬ (1 ≤ v_ ∧ v_ ≤ 1 <<< (mfo S a_ 1 &&& 31) - 1) ∧ S' = S) ∨ ((1 ≤ v_ ∧ v_ ≤ 1 <<< (mfo S a_ 1 &&& 31) - 1) ∧ ∃ q, q ∉ xL S ∧ S' = xR (xN S q (kc (mfo S a_ 0)) (gM (mfo S a_ 0) (mfo S a_ 1) v_ (mfo S a_ 3) (mfo S a_ 4))) i_.toNatClampNeg q))) := by
  refine V_entry (own := RX10) (by decide) rfl (Nat.le_of_ble_eq_true rfl) ?_
  intro B hB
  refine V_sub (L' := [(0, .ref (Z.2.2.2 99)), (1, .int i_), (2, .ref (a_)), (3, .int v_)]) [0, 1, 2, 3] rfl ?_
  refine V_iload_n (pc := 0) dX10_becomeTaps_0 3 rfl rfl ?_
  refine V_iconst (v := 1) (pc := 1) dX10_becomeTaps_1 (by decide) ?_
  refine V_aload_n (pc := 2) dX10_becomeTaps_2 2 rfl rfl ?_
  refine Xmg_cells (pc := 3) (v := (mfo S a_ 1)) (by exact ha) (by exact hm) rfl dX10_becomeTaps_3 tw_205 (Or.inl rfl) ?_
  refine V_callSi (pc := 6) dX10_becomeTaps_6 (c_X10_allCells Z _ _) kX10_64 rfl (Nat.le_of_ble_eq_true rfl) (by decide) (by decide) (Nat.le_of_ble_eq_true rfl) (Nat.le_of_ble_eq_true rfl) ?_
  refine V_callSi (pc := 9) dX10_becomeTaps_9 (c_X10_between Z _ _ _ _) kX10_60 rfl (Nat.le_of_ble_eq_true rfl) (by decide) (by decide) (Nat.le_of_ble_eq_true rfl) (Nat.le_of_ble_eq_true rfl) ?_
  refine V_bif_eq (pc := 12) (tgt := 30) dX10_becomeTaps_12 (by decide) (fun h12 => ?_) (fun h12 => ?_)
  · skip
    refine V_sipush (v := (-1000)) (pc := 30) dX10_becomeTaps_30 (by decide) ?_
    exact V_iret (pc := 33) dX10_becomeTaps_33 (Nat.le_of_ble_eq_true rfl) (Nat.le_of_ble_eq_true rfl) (hB _ _ ⟨congrArg (fun z => some (Value.int z)) (by exact (if_neg h12).symm), by exact Or.inl ⟨h12, rfl⟩⟩)
  · skip
    refine V_iload_n (pc := 15) dX10_becomeTaps_15 1 rfl rfl ?_
    refine V_iconst (v := 0) (pc := 16) dX10_becomeTaps_16 (by decide) ?_
    refine V_aload_n (pc := 17) dX10_becomeTaps_17 0 rfl rfl ?_
    refine Xg_X10_13 (pc := 18) dX10_becomeTaps_18 ?_
    refine Xn_0 (pc := 21) dX10_becomeTaps_21 ?_
    refine V_iconst (v := 1) (pc := 22) dX10_becomeTaps_22 (by decide) ?_
    refine V_isub (pc := 23) dX10_becomeTaps_23 ?_
    refine V_callSi (pc := 24) dX10_becomeTaps_24 (c_X10_between Z _ _ _ _) kX10_60 rfl (Nat.le_of_ble_eq_true rfl) (by decide) (by decide) (Nat.le_of_ble_eq_true rfl) (Nat.le_of_ble_eq_true rfl) ?_
    refine V_bif_ne (pc := 27) (tgt := 34) dX10_becomeTaps_27 (by decide) (fun h27 => ?_) (fun h27 => ?_)
    · skip
      refine V_aload_n (pc := 34) dX10_becomeTaps_34 0 rfl rfl ?_
      refine Xg_X10_13 (pc := 35) dX10_becomeTaps_35 ?_
      refine V_iload_n (pc := 38) dX10_becomeTaps_38 1 rfl rfl ?_
      refine V_aload_n (pc := 39) dX10_becomeTaps_39 2 rfl rfl ?_
      refine Xmg_kind (pc := 40) (v := (mfo S a_ 0)) (by exact ha) (by exact hm) rfl dX10_becomeTaps_40 tw_201 (Or.inl rfl) ?_
      refine V_aload_n (pc := 43) dX10_becomeTaps_43 2 rfl rfl ?_
      refine Xmg_cells (pc := 44) (v := (mfo S a_ 1)) (by exact ha) (by exact hm) rfl dX10_becomeTaps_44 tw_205 (Or.inl rfl) ?_
      refine V_iload_n (pc := 47) dX10_becomeTaps_47 3 rfl rfl ?_
      refine V_aload_n (pc := 48) dX10_becomeTaps_48 2 rfl rfl ?_
      refine Xmg_state (pc := 49) (v := (mfo S a_ 3)) (by exact ha) (by exact hm) rfl dX10_becomeTaps_49 tw_213 (Or.inl rfl) ?_
      refine V_aload_n (pc := 52) dX10_becomeTaps_52 2 rfl rfl ?_
      refine Xmg_carry (pc := 53) (v := (mfo S a_ 4)) (by exact ha) (by exact hm) rfl dX10_becomeTaps_53 tw_221 (Or.inl rfl) ?_
      refine V_callS (pc := 56) dX10_becomeTaps_56 (c_X10_made Z _ _ _ _ _ _) kX10_68 rfl (Nat.le_of_ble_eq_true rfl) (by decide) (by decide) (Nat.le_of_ble_eq_true rfl) (Nat.le_of_ble_eq_true rfl) (fun v56 S56 hp56 => ?_)
      refine V_widen (n' := 1) (k' := 6) (Nat.le_refl _) (Nat.le_refl _) ?_
      obtain ⟨q_, rfl, hq_, rfl⟩ := hp56
      refine Xs_m (pc := 59) (by exact in_xN _ _ _ _) (by exact mcl_xN _ _ _ _) dX10_becomeTaps_59 (by exact hi) ?_
      refine V_aload_n (pc := 60) dX10_becomeTaps_60 2 rfl rfl ?_
      refine Xmg_taps (pc := 61) (v := (mfo S a_ 2)) (by exact List.mem_append_left _ ha) (by exact mclN_ne hq_ ha hm) (by exact mfoN_ne hq_ ha 2) dX10_becomeTaps_61 tw_209 (Or.inl rfl) ?_
      exact V_iret (pc := 64) dX10_becomeTaps_64 (Nat.le_of_ble_eq_true rfl) (Nat.le_of_ble_eq_true rfl) (hB _ _ ⟨congrArg (fun z => some (Value.int z)) (by exact (if_pos h12).symm), by exact Or.inr ⟨h12, q_, hq_, rfl⟩⟩)
    · skip
      exact absurd (in03 hi) h27
set_option maxHeartbeats 4000000 in
set_option maxRecDepth 100000 in
theorem c_X10_becomeKind (Z : VZ) (S : XS) (i_ : Int32) (a_ : Nat) (v_ : Int32) (hi : vp_in i_ 4) (ha : a_ ∈ xL S) (hm : mcl (xmk S a_)) : Ct XW Z yX10_becomeKind cX10_becomeKind 4 (some .int) 7 1 6 [.ref (Z.2.2.2 99), .int i_, .ref (a_), .int v_] (S) (fun v S' => v = some (.int (if (0 ≤ v_ ∧ v_ ≤ 5) then mfo S a_ 0 else -1000)) ∧ ((¬ (0 ≤ v_ ∧ v_ ≤ 5) ∧ S' = S) ∨ ((0 ≤ v_ ∧ v_ ≤ 5) ∧ ∃ q, q ∉ xL S ∧ S' = xR (xN S q (kc v_) (gM v_ (mfo S a_ 1) (mfo S a_ 2) (mfo S a_ 3) (mfo S a_ 4))) i_.toNatClampNeg q))) := by
  refine V_entry (own := RX10) (by decide) rfl (Nat.le_of_ble_eq_true rfl) ?_
  intro B hB
  refine V_sub (L' := [(0, .ref (Z.2.2.2 99)), (1, .int i_), (2, .ref (a_)), (3, .int v_)]) [0, 1, 2, 3] rfl ?_
  refine V_iload_n (pc := 0) dX10_becomeKind_0 3 rfl rfl ?_
  refine V_iconst (v := 0) (pc := 1) dX10_becomeKind_1 (by decide) ?_
  refine V_iconst (v := 5) (pc := 2) dX10_becomeKind_2 (by decide) ?_
  refine V_callSi (pc := 3) dX10_becomeKind_3 (c_X10_between Z _ _ _ _) kX10_60 rfl (Nat.le_of_ble_eq_true rfl) (by decide) (by decide) (Nat.le_of_ble_eq_true rfl) (Nat.le_of_ble_eq_true rfl) ?_
  refine V_bif_eq (pc := 6) (tgt := 24) dX10_becomeKind_6 (by decide) (fun h6 => ?_) (fun h6 => ?_)
  · skip
    refine V_sipush (v := (-1000)) (pc := 24) dX10_becomeKind_24 (by decide) ?_
    exact V_iret (pc := 27) dX10_becomeKind_27 (Nat.le_of_ble_eq_true rfl) (Nat.le_of_ble_eq_true rfl) (hB _ _ ⟨congrArg (fun z => some (Value.int z)) (by exact (if_neg h6).symm), by exact Or.inl ⟨h6, rfl⟩⟩)
  · skip
    refine V_iload_n (pc := 9) dX10_becomeKind_9 1 rfl rfl ?_
    refine V_iconst (v := 0) (pc := 10) dX10_becomeKind_10 (by decide) ?_
    refine V_aload_n (pc := 11) dX10_becomeKind_11 0 rfl rfl ?_
    refine Xg_X10_13 (pc := 12) dX10_becomeKind_12 ?_
    refine Xn_0 (pc := 15) dX10_becomeKind_15 ?_
    refine V_iconst (v := 1) (pc := 16) dX10_becomeKind_16 (by decide) ?_
    refine V_isub (pc := 17) dX10_becomeKind_17 ?_
    refine V_callSi (pc := 18) dX10_becomeKind_18 (c_X10_between Z _ _ _ _) kX10_60 rfl (Nat.le_of_ble_eq_true rfl) (by decide) (by decide) (Nat.le_of_ble_eq_true rfl) (Nat.le_of_ble_eq_true rfl) ?_
    refine V_bif_ne (pc := 21) (tgt := 28) dX10_becomeKind_21 (by decide) (fun h21 => ?_) (fun h21 => ?_)
    · skip
      refine V_aload_n (pc := 28) dX10_becomeKind_28 0 rfl rfl ?_
      refine Xg_X10_13 (pc := 29) dX10_becomeKind_29 ?_
      refine V_iload_n (pc := 32) dX10_becomeKind_32 1 rfl rfl ?_
      refine V_iload_n (pc := 33) dX10_becomeKind_33 3 rfl rfl ?_
      refine V_aload_n (pc := 34) dX10_becomeKind_34 2 rfl rfl ?_
      refine Xmg_cells (pc := 35) (v := (mfo S a_ 1)) (by exact ha) (by exact hm) rfl dX10_becomeKind_35 tw_205 (Or.inl rfl) ?_
      refine V_aload_n (pc := 38) dX10_becomeKind_38 2 rfl rfl ?_
      refine Xmg_taps (pc := 39) (v := (mfo S a_ 2)) (by exact ha) (by exact hm) rfl dX10_becomeKind_39 tw_209 (Or.inl rfl) ?_
      refine V_aload_n (pc := 42) dX10_becomeKind_42 2 rfl rfl ?_
      refine Xmg_state (pc := 43) (v := (mfo S a_ 3)) (by exact ha) (by exact hm) rfl dX10_becomeKind_43 tw_213 (Or.inl rfl) ?_
      refine V_aload_n (pc := 46) dX10_becomeKind_46 2 rfl rfl ?_
      refine Xmg_carry (pc := 47) (v := (mfo S a_ 4)) (by exact ha) (by exact hm) rfl dX10_becomeKind_47 tw_221 (Or.inl rfl) ?_
      refine V_callS (pc := 50) dX10_becomeKind_50 (c_X10_made Z _ _ _ _ _ _) kX10_68 rfl (Nat.le_of_ble_eq_true rfl) (by decide) (by decide) (Nat.le_of_ble_eq_true rfl) (Nat.le_of_ble_eq_true rfl) (fun v50 S50 hp50 => ?_)
      refine V_widen (n' := 1) (k' := 6) (Nat.le_refl _) (Nat.le_refl _) ?_
      obtain ⟨q_, rfl, hq_, rfl⟩ := hp50
      refine Xs_m (pc := 53) (by exact in_xN _ _ _ _) (by exact mcl_xN _ _ _ _) dX10_becomeKind_53 (by exact hi) ?_
      refine V_aload_n (pc := 54) dX10_becomeKind_54 2 rfl rfl ?_
      refine Xmg_kind (pc := 55) (v := (mfo S a_ 0)) (by exact List.mem_append_left _ ha) (by exact mclN_ne hq_ ha hm) (by exact mfoN_ne hq_ ha 0) dX10_becomeKind_55 tw_201 (Or.inl rfl) ?_
      exact V_iret (pc := 58) dX10_becomeKind_58 (Nat.le_of_ble_eq_true rfl) (Nat.le_of_ble_eq_true rfl) (hB _ _ ⟨congrArg (fun z => some (Value.int z)) (by exact (if_pos h6).symm), by exact Or.inr ⟨h6, q_, hq_, rfl⟩⟩)
    · skip
      exact absurd (in03 hi) h21
