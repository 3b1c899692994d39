theorem x_sh (Z : VZ) (S : XS) {i : Nat} (hi : i < 4) : (XW Z S)[5 + i]? = some (Z.2.2.2 (10 + i), .inr (8, [.ref (Z.2.2.2 (20 + i)), .int (S.1 (10 + i)), .int (S.1 (20 + i))])) := by
  match i, hi with
  | 0, _ => rfl
  | 1, _ => rfl
  | 2, _ => rfl
  | 3, _ => rfl
  | i + 4, hi => exact absurd hi (by omega)
abbrev xF (S : XS) (k : Nat) (x : Int32) : XS := (va_up S.1 k x, S.2)
abbrev xA (S : XS) (k : Nat) (g : Nat → Int32) : XS := (S.1, S.2.1, va_up S.2.2.1 k g, S.2.2.2)
theorem xA_self (S : XS) (k : Nat) : S = xA S k (S.2.2.1 k) := by
  show S = (S.1, S.2.1, va_up S.2.2.1 k (S.2.2.1 k), S.2.2.2)
  rw [va_upS]
theorem xA_xA (S : XS) (k : Nat) (f g : Nat → Int32) : xA (xA S k f) k g = xA S k g := by
  show (S.1, S.2.1, va_up (va_up S.2.2.1 k f) k g, S.2.2.2) = (S.1, S.2.1, va_up S.2.2.1 k g, S.2.2.2)
  rw [bx_uu]
theorem xA_at (S : XS) (k : Nat) (g : Nat → Int32) : (xA S k g).2.2.1 k = g := va_up_self _ _ _
def xZr (f : Nat → Int32) (j : Nat) : Nat → Int32 := it (fun q g => upd g q 0) j f
def rwL (f : Nat → Int32) (b : Int64) (j : Nat) : Nat → Int32 := it (fun q g => upd g q (((Int64.toUInt64 b >>> ((Int32.toInt64 (nI q)).toUInt64 &&& Int64.toUInt64 63)).toInt64 &&& 1).toInt32)) j f
def btL (f : Nat → Int32) (n : Nat) : Int64 := it (fun q (b : Int64) => b ||| (f q &&& 1).toInt64 <<< ((nI q).toInt64 &&& 63)) n 0
set_option maxHeartbeats 4000000 in
set_option maxRecDepth 100000 in
theorem c_X8_isMissing (Z : VZ) (S : XS) (i_ : Nat) (hi : i_ < 4) : CtF XW Z yX8_isMissing cX8_isMissing 1 (some .boolean) 0 0 0 [.ref (Z.2.2.2 (10 + i_))] (S) (some (.int (bI (S.1 (10 + i_) = -1)))) (S) := by
  refine V_entry (own := RX8) (by decide) rfl (Nat.le_of_ble_eq_true rfl) ?_
  intro B hB
  refine V_sub (L' := [(0, .ref (Z.2.2.2 (10 + i_)))]) [0] rfl ?_
  refine V_aload_n (pc := 0) dX8_isMissing_0 0 rfl rfl ?_
  refine Xg_X8_15 (pc := 1) (v := (S.1 (10 + i_))) (by assumption) rfl dX8_isMissing_1 ?_
  refine V_iconst (v := (-1)) (pc := 4) dX8_isMissing_4 (by decide) ?_
  refine V_icmp_ne (pc := 5) (tgt := 12) dX8_isMissing_5 (by decide) (fun h5 => ?_) (fun h5 => ?_)
  · skip
    refine V_iconst (v := 0) (pc := 12) dX8_isMissing_12 (by decide) ?_
    exact V_zret (pc := 13) dX8_isMissing_13 (Nat.le_of_ble_eq_true rfl) (Nat.le_of_ble_eq_true rfl) (Or.inl rfl) (hB _ _ ⟨congrArg (fun z => some (Value.int z)) (by first | exact (bI_t h5).symm | exact (bI_f h5).symm), by rfl⟩)
  · skip
    refine V_iconst (v := 1) (pc := 8) dX8_isMissing_8 (by decide) ?_
    refine V_goto (pc := 9) (tgt := 13) dX8_isMissing_9 (by decide) ?_
    exact V_zret (pc := 13) dX8_isMissing_13 (Nat.le_of_ble_eq_true rfl) (Nat.le_of_ble_eq_true rfl) (Or.inr rfl) (hB _ _ ⟨congrArg (fun z => some (Value.int z)) (by first | exact (bI_t h5).symm | exact (bI_f h5).symm), by rfl⟩)
set_option maxHeartbeats 4000000 in
set_option maxRecDepth 100000 in
theorem c_X8_has (Z : VZ) (S : XS) (i_ : Nat) (p_ : Int64) (q_ : Int64) (hi : i_ < 4) : CtF XW Z yX8_has cX8_has 5 (some .boolean) 0 0 0 [.ref (Z.2.2.2 (10 + i_)), .long p_, .long q_] (S) (some (.int (bI (¬ lg_cmp p_ 0 < 0 ∧ ¬ lg_cmp q_ 0 < 0 ∧ ¬ 0 < lg_cmp (p_ + q_) (Int32.toInt64 (S.1 (20 + i_))) ∧ ¬ 40 < (S.1 (20 + i_)))))) (S) := by
  refine V_entry (own := RX8) (by decide) rfl (Nat.le_of_ble_eq_true rfl) ?_
  intro B hB
  refine V_sub (L' := [(0, .ref (Z.2.2.2 (10 + i_))), (1, .long p_), (3, .long q_)]) [0, 1, 2] rfl ?_
  refine V_lload_n (pc := 0) dX8_has_0 1 rfl rfl ?_
  refine V_lconst (v := 0) (pc := 1) dX8_has_1 (by decide) ?_
  refine V_lcmp (pc := 2) dX8_has_2 ?_
  refine V_if_lt (pc := 3) (tgt := 40) dX8_has_3 (by decide) (fun h3 => ?_) (fun h3 => ?_)
  · skip
    refine V_iconst (v := 0) (pc := 40) dX8_has_40 (by decide) ?_
    exact V_zret (pc := 41) dX8_has_41 (Nat.le_of_ble_eq_true rfl) (Nat.le_of_ble_eq_true rfl) (Or.inl rfl) (hB _ _ ⟨congrArg (fun z => some (Value.int z)) (by exact (bI_f (fun h => h.1 h3)).symm), by rfl⟩)
  · skip
    refine V_lload_n (pc := 6) dX8_has_6 2 rfl rfl ?_
    refine V_lconst (v := 0) (pc := 7) dX8_has_7 (by decide) ?_
    refine V_lcmp (pc := 8) dX8_has_8 ?_
    refine V_if_lt (pc := 9) (tgt := 40) dX8_has_9 (by decide) (fun h9 => ?_) (fun h9 => ?_)
    · skip
      refine V_iconst (v := 0) (pc := 40) dX8_has_40 (by decide) ?_
      exact V_zret (pc := 41) dX8_has_41 (Nat.le_of_ble_eq_true rfl) (Nat.le_of_ble_eq_true rfl) (Or.inl rfl) (hB _ _ ⟨congrArg (fun z => some (Value.int z)) (by exact (bI_f (fun h => h.2.1 h9)).symm), by rfl⟩)
    · skip
      refine V_lload_n (pc := 12) dX8_has_12 1 rfl rfl ?_
      refine V_lload_n (pc := 13) dX8_has_13 2 rfl rfl ?_
      refine V_ladd (pc := 14) dX8_has_14 ?_
      refine V_aload_n (pc := 15) dX8_has_15 0 rfl rfl ?_
      refine Xg_X8_19 (pc := 16) (v := (S.1 (20 + i_))) (by assumption) rfl dX8_has_16 ?_
      refine V_i2l (pc := 19) dX8_has_19 rfl ?_
      refine V_lcmp (pc := 20) dX8_has_20 ?_
      refine V_if_gt (pc := 21) (tgt := 40) dX8_has_21 (by decide) (fun h21 => ?_) (fun h21 => ?_)
      · skip
        refine V_iconst (v := 0) (pc := 40) dX8_has_40 (by decide) ?_
        exact V_zret (pc := 41) dX8_has_41 (Nat.le_of_ble_eq_true rfl) (Nat.le_of_ble_eq_true rfl) (Or.inl rfl) (hB _ _ ⟨congrArg (fun z => some (Value.int z)) (by exact (bI_f (fun h => h.2.2.1 h21)).symm), by rfl⟩)
      · skip
        refine V_aload_n (pc := 24) dX8_has_24 0 rfl rfl ?_
        refine Xg_X8_19 (pc := 25) (v := (S.1 (20 + i_))) (by assumption) rfl dX8_has_25 ?_
        refine V_aload_n (pc := 28) dX8_has_28 0 rfl rfl ?_
        refine Xg_X8_9 (pc := 29) (by assumption) dX8_has_29 ?_
        refine Xn_it (pc := 32) (by assumption) dX8_has_32 ?_
        refine V_icmp_gt (pc := 33) (tgt := 40) dX8_has_33 (by decide) (fun h33 => ?_) (fun h33 => ?_)
        · skip
          refine V_iconst (v := 0) (pc := 40) dX8_has_40 (by decide) ?_
          exact V_zret (pc := 41) dX8_has_41 (Nat.le_of_ble_eq_true rfl) (Nat.le_of_ble_eq_true rfl) (Or.inl rfl) (hB _ _ ⟨congrArg (fun z => some (Value.int z)) (by first | exact (bI_t ⟨h3, h9, h21, h33⟩).symm | exact (bI_f (fun h => h.2.2.2 h33)).symm), by rfl⟩)
        · skip
          refine V_iconst (v := 1) (pc := 36) dX8_has_36 (by decide) ?_
          refine V_goto (pc := 37) (tgt := 41) dX8_has_37 (by decide) ?_
          exact V_zret (pc := 41) dX8_has_41 (Nat.le_of_ble_eq_true rfl) (Nat.le_of_ble_eq_true rfl) (Or.inr rfl) (hB _ _ ⟨congrArg (fun z => some (Value.int z)) (by first | exact (bI_t ⟨h3, h9, h21, h33⟩).symm | exact (bI_f (fun h => h.2.2.2 h33)).symm), by rfl⟩)
set_option maxHeartbeats 4000000 in
set_option maxRecDepth 100000 in
theorem c_X8_become (Z : VZ) (S : XS) (i_ : Nat) (b_ : Int32) (n_ : Int32) (hi : i_ < 4) : CtF XW Z yX8_become cX8_become 4 none 1 0 0 [.ref (Z.2.2.2 (10 + i_)), .int b_, .int n_] (S) none (xA (xF (xF S (10 + i_) b_) (20 + i_) (if 40 < n_ then 40 else n_)) (20 + i_) (xZr (S.2.2.1 (20 + i_)) 40)) := by
  refine V_entry (own := RX8) (by decide) rfl (Nat.le_of_ble_eq_true rfl) ?_
  intro B hB
  refine V_sub (L' := [(0, .ref (Z.2.2.2 (10 + i_))), (1, .int b_), (2, .int n_)]) [0, 1, 2] rfl ?_
  refine V_aload_n (pc := 0) dX8_become_0 0 rfl rfl ?_
  refine V_iload_n (pc := 1) dX8_become_1 1 rfl rfl ?_
  refine Xp_X8_15 (pc := 2) (by assumption) dX8_become_2 ?_
  refine V_aload_n (pc := 5) dX8_become_5 0 rfl rfl ?_
  refine V_iload_n (pc := 6) dX8_become_6 2 rfl rfl ?_
  refine V_aload_n (pc := 7) dX8_become_7 0 rfl rfl ?_
  refine Xg_X8_9 (pc := 8) (by assumption) dX8_become_8 ?_
  refine Xn_it (pc := 11) (by assumption) dX8_become_11 ?_
  refine V_mmin (pc := 12) dX8_become_12 tw_428 tw_397 tw_14 tw_398 (by decide) (Nat.le_of_ble_eq_true rfl) (Nat.le_refl _) (Nat.le_refl _) ?_
  refine Xp_X8_19 (pc := 15) (by assumption) dX8_become_15 ?_
  refine V_eqS _ (xA_self _ (20 + i_)) ?_
  refine V_iconst (v := 0) (pc := 18) dX8_become_18 (by decide) ?_
  refine V_istore_n (pc := 19) (L2 := [(0, .ref (Z.2.2.2 (10 + i_))), (1, .int b_), (2, .int n_)]) dX8_become_19 rfl (by decide) rfl (fun x3_19 ex3_19 => ?_)
  subst ex3_19
  refine V_sub (L' := [(3, .int (nI 0)), (0, .ref (Z.2.2.2 (10 + i_))), (1, .int b_), (2, .int n_)]) [0, 1, 2, 3] rfl ?_
  refine Vloop (σ := Nat) (fun x => x ≤ 40) (fun x => 40 - x) (fun x => V XW Z cX8_become RX8 4 none 1 0 0 B 0 0 20 [(3, .int (nI x)), (0, .ref (Z.2.2.2 (10 + i_))), (1, .int b_), (2, .int n_)] [] (xA (xF (xF S (10 + i_) b_) (20 + i_) (if 40 < n_ then 40 else n_)) (20 + i_) (xZr (S.2.2.1 (20 + i_)) x))) ?_ 0 (by exact Nat.zero_le _)
  rintro j hI20 ih20
  have hI20 : j ≤ 40 := hI20
  show V XW Z cX8_become RX8 4 none 1 0 0 B 0 0 20 [(3, .int (nI j)), (0, .ref (Z.2.2.2 (10 + i_))), (1, .int b_), (2, .int n_)] [] (xA (xF (xF S (10 + i_) b_) (20 + i_) (if 40 < n_ then 40 else n_)) (20 + i_) (xZr (S.2.2.1 (20 + i_)) j))
  refine V_iload_n (pc := 20) dX8_become_20 0 rfl rfl ?_
  refine V_aload_n (pc := 21) dX8_become_21 1 rfl rfl ?_
  refine Xg_X8_9 (pc := 22) (by assumption) dX8_become_22 ?_
  refine Xn_it (pc := 25) (by assumption) dX8_become_25 ?_
  refine V_icmp_ge (pc := 26) (tgt := 42) dX8_become_26 (by decide) (fun h26 => ?_) (fun h26 => ?_)
  · skip
    have hj : 40 ≤ j := jge h26 (by omega)
    have ej : j = 40 := by omega
    exact V_vret (pc := 42) dX8_become_42 (Nat.le_of_ble_eq_true rfl) (Nat.le_of_ble_eq_true rfl) (hB _ _ ⟨rfl, by rw [ej]⟩)
  · skip
    have hj : j < 40 := jlt h26 (by omega)
    refine V_aload_n (pc := 29) dX8_become_29 1 rfl rfl ?_
    refine Xg_X8_9 (pc := 30) (by assumption) dX8_become_30 ?_
    refine V_iload_n (pc := 33) dX8_become_33 0 rfl rfl ?_
    refine V_iconst (v := 0) (pc := 34) dX8_become_34 (by decide) ?_
    refine Xs_it (pc := 35) (by assumption) dX8_become_35 (by exact vp_in_nI (by omega) (by decide)) ?_
    refine V_eqS (xA (xF (xF S (10 + i_) b_) (20 + i_) (if 40 < n_ then 40 else n_)) (20 + i_) (xZr (S.2.2.1 (20 + i_)) (j + 1))) (by
        refine (xA_xA _ (20 + i_) _ _).trans ?_
        rw [xA_at, nI_clamp (by omega)]
        rfl) ?_
    refine V_iinc (pc := 36) (v := 1) (L2 := [(0, .ref (Z.2.2.2 (10 + i_))), (1, .int b_), (2, .int n_)]) dX8_become_36 0 rfl (by decide) (by decide) rfl (fun x3_36 ex3_36 => ?_)
    rw [nI_1] at ex3_36
    subst ex3_36
    refine V_goto (pc := 39) (tgt := 20) dX8_become_39 (by decide) ?_
    refine V_sub (L' := [(3, .int (nI (j + 1))), (0, .ref (Z.2.2.2 (10 + i_))), (1, .int b_), (2, .int n_)]) [0, 1, 2, 3] rfl ?_
    refine ih20 ((j + 1)) ?_ ?_
    · show ((j + 1)) ≤ 40
      exact hj
    · show 40 - (j + 1) < 40 - j
      omega
set_option maxHeartbeats 4000000 in
set_option maxRecDepth 100000 in
theorem c_X8_becomeRow (Z : VZ) (S : XS) (i_ : Nat) (b_ : Int64) (n_ : Int32) (hi : i_ < 4) (hn : 0 ≤ n_ ∧ n_ ≤ 40) : CtF XW Z yX8_becomeRow cX8_becomeRow 5 none 2 0 0 [.ref (Z.2.2.2 (10 + i_)), .long b_, .int n_] (S) none (xA (xF (xF S (10 + i_) 0) (20 + i_) n_) (20 + i_) (rwL (xZr (S.2.2.1 (20 + i_)) 40) b_ n_.toNatClampNeg)) := by
  refine V_entry (own := RX8) (by decide) rfl (Nat.le_of_ble_eq_true rfl) ?_
  intro B hB
  refine V_sub (L' := [(0, .ref (Z.2.2.2 (10 + i_))), (1, .long b_), (3, .int n_)]) [0, 1, 2] rfl ?_
  refine V_aload_n (pc := 0) dX8_becomeRow_0 0 rfl rfl ?_
  refine V_iconst (v := 0) (pc := 1) dX8_becomeRow_1 (by decide) ?_
  refine V_iload_n (pc := 2) dX8_becomeRow_2 2 rfl rfl ?_
  refine V_callVv (ci := 8) (C := RX8) (T := TX8) (N := 3) (pc := 3) dX8_becomeRow_3 (c_X8_become Z _ _ _ _ (by exact hi)) kX8_28 (x_sh Z _ (by assumption)) rfl rfl rfl (Nat.le_of_ble_eq_true rfl) (by decide) (by decide) (Nat.le_of_ble_eq_true rfl) (Nat.le_of_ble_eq_true rfl) ?_
  have hn4 := in40 hn
  refine V_eqS (xA (xF (xF S (10 + i_) 0) (20 + i_) n_) (20 + i_) (rwL (xZr (S.2.2.1 (20 + i_)) 40) b_ 0)) (by rw [if_neg (Int32.not_lt.mpr hn.2)]; rfl) ?_
  refine V_iconst (v := 0) (pc := 6) dX8_becomeRow_6 (by decide) ?_
  refine V_istore (pc := 7) (L2 := [(0, .ref (Z.2.2.2 (10 + i_))), (1, .long b_), (3, .int n_)]) dX8_becomeRow_7 (by decide) rfl (fun x4_7 ex4_7 => ?_)
  subst ex4_7
  refine V_sub (L' := [(4, .int (nI 0)), (0, .ref (Z.2.2.2 (10 + i_))), (1, .long b_), (3, .int n_)]) [0, 1, 2, 3] rfl ?_
  refine Vloop (σ := Nat) (fun x => x ≤ n_.toNatClampNeg) (fun x => n_.toNatClampNeg - x) (fun x => V XW Z cX8_becomeRow RX8 5 none 2 0 0 B 0 0 9 [(4, .int (nI x)), (0, .ref (Z.2.2.2 (10 + i_))), (1, .long b_), (3, .int n_)] [] (xA (xF (xF S (10 + i_) 0) (20 + i_) n_) (20 + i_) (rwL (xZr (S.2.2.1 (20 + i_)) 40) b_ x))) ?_ 0 (by exact Nat.zero_le _)
  rintro j hI9 ih9
  have hI9 : j ≤ n_.toNatClampNeg := hI9
  show V XW Z cX8_becomeRow RX8 5 none 2 0 0 B 0 0 9 [(4, .int (nI j)), (0, .ref (Z.2.2.2 (10 + i_))), (1, .long b_), (3, .int n_)] [] (xA (xF (xF S (10 + i_) 0) (20 + i_) n_) (20 + i_) (rwL (xZr (S.2.2.1 (20 + i_)) 40) b_ j))
  refine V_iload (pc := 9) dX8_becomeRow_9 0 rfl ?_
  refine V_aload_n (pc := 11) dX8_becomeRow_11 1 rfl rfl ?_
  refine Xg_X8_19 (pc := 12) (v := n_) (by assumption) (va_up_self _ _ _) dX8_becomeRow_12 ?_
  refine V_icmp_ge (pc := 15) (tgt := 48) dX8_becomeRow_15 (by decide) (fun h15 => ?_) (fun h15 => ?_)
  · skip
    have hj : n_.toNatClampNeg ≤ j := jge h15 (by omega)
    have ej : j = n_.toNatClampNeg := Nat.le_antisymm hI9 hj
    exact V_vret (pc := 48) dX8_becomeRow_48 (Nat.le_of_ble_eq_true rfl) (Nat.le_of_ble_eq_true rfl) (hB _ _ ⟨rfl, by rw [ej]⟩)
  · skip
    have hj : j < n_.toNatClampNeg := jlt h15 (by omega)
    refine V_iload (pc := 18) dX8_becomeRow_18 0 rfl ?_
    refine V_aload_n (pc := 20) dX8_becomeRow_20 1 rfl rfl ?_
    refine Xg_X8_9 (pc := 21) (by assumption) dX8_becomeRow_21 ?_
    refine Xn_it (pc := 24) (by assumption) dX8_becomeRow_24 ?_
    refine V_icmp_ge (pc := 25) (tgt := 48) dX8_becomeRow_25 (by decide) (fun h25 => ?_) (fun h25 => ?_)
    · skip
      exact absurd h25 (Int32.not_le.mpr (nI_lt (b := 40) (by omega) (by decide)))
    · skip
      refine V_aload_n (pc := 28) dX8_becomeRow_28 1 rfl rfl ?_
      refine Xg_X8_9 (pc := 29) (by assumption) dX8_becomeRow_29 ?_
      refine V_iload (pc := 32) dX8_becomeRow_32 0 rfl ?_
      refine V_lload_n (pc := 34) dX8_becomeRow_34 2 rfl rfl ?_
      refine V_iload (pc := 35) dX8_becomeRow_35 0 rfl ?_
      refine V_lushr (pc := 37) dX8_becomeRow_37 rfl ?_
      refine V_lconst (v := 1) (pc := 38) dX8_becomeRow_38 (by decide) ?_
      refine V_land (pc := 39) dX8_becomeRow_39 ?_
      refine V_l2i (pc := 40) dX8_becomeRow_40 rfl ?_
      refine Xs_it (pc := 41) (by assumption) dX8_becomeRow_41 (by exact vp_in_nI (by omega) (by decide)) ?_
      refine V_eqS (xA (xF (xF S (10 + i_) 0) (20 + i_) n_) (20 + i_) (rwL (xZr (S.2.2.1 (20 + i_)) 40) b_ (j + 1))) (by
          refine (xA_xA _ (20 + i_) _ _).trans ?_
          rw [xA_at, nI_clamp (by omega)]
          rfl) ?_
      refine V_iinc (pc := 42) (v := 1) (L2 := [(0, .ref (Z.2.2.2 (10 + i_))), (1, .long b_), (3, .int n_)]) dX8_becomeRow_42 0 rfl (by decide) (by decide) rfl (fun x4_42 ex4_42 => ?_)
      rw [nI_1] at ex4_42
      subst ex4_42
      refine V_goto (pc := 45) (tgt := 9) dX8_becomeRow_45 (by decide) ?_
      refine V_sub (L' := [(4, .int (nI (j + 1))), (0, .ref (Z.2.2.2 (10 + i_))), (1, .long b_), (3, .int n_)]) [0, 1, 2, 3] rfl ?_
      refine ih9 ((j + 1)) ?_ ?_
      · show ((j + 1)) ≤ n_.toNatClampNeg
        exact hj
      · show n_.toNatClampNeg - (j + 1) < n_.toNatClampNeg - j
        omega
set_option maxHeartbeats 4000000 in
set_option maxRecDepth 100000 in
theorem c_X8_bits (Z : VZ) (S : XS) (i_ : Nat) (hi : i_ < 4) (hz : (S.1 (20 + i_)).toNatClampNeg ≤ 40) : CtF XW Z yX8_bits cX8_bits 4 (some .long) 0 0 0 [.ref (Z.2.2.2 (10 + i_))] (S) (some (.long (btL (S.2.2.1 (20 + i_)) (S.1 (20 + i_)).toNatClampNeg))) (S) := by
  refine V_entry (own := RX8) (by decide) rfl (Nat.le_of_ble_eq_true rfl) ?_
  intro B hB
  refine V_sub (L' := [(0, .ref (Z.2.2.2 (10 + i_)))]) [0] rfl ?_
  refine V_lconst (v := 0) (pc := 0) dX8_bits_0 (by decide) ?_
  refine V_lstore_n (pc := 1) (L2 := [(0, .ref (Z.2.2.2 (10 + i_)))]) dX8_bits_1 rfl (by decide) rfl (fun x1_1 ex1_1 => ?_)
  subst ex1_1
  refine V_iconst (v := 0) (pc := 2) dX8_bits_2 (by decide) ?_
  refine V_istore_n (pc := 3) (L2 := [(1, .long 0), (0, .ref (Z.2.2.2 (10 + i_)))]) dX8_bits_3 rfl (by decide) rfl (fun x3_3 ex3_3 => ?_)
  subst ex3_3
  refine V_sub (L' := [(3, .int (nI 0)), (1, .long 0), (0, .ref (Z.2.2.2 (10 + i_)))]) [0, 1, 2] rfl ?_
  refine Vloop (σ := Nat × Int64) (fun x => (x.1) ≤ (S.1 (20 + i_)).toNatClampNeg ∧ (x.2) = btL (S.2.2.1 (20 + i_)) (x.1)) (fun x => (S.1 (20 + i_)).toNatClampNeg - (x.1)) (fun x => V XW Z cX8_bits RX8 4 (some .long) 0 0 0 B 0 0 4 [(3, .int (nI (x.1))), (1, .long (x.2)), (0, .ref (Z.2.2.2 (10 + i_)))] [] (S)) ?_ (0, 0) (by exact ⟨Nat.zero_le _, rfl⟩)
  rintro ⟨j, u⟩ hI4 ih4
  have hI4 : j ≤ (S.1 (20 + i_)).toNatClampNeg ∧ u = btL (S.2.2.1 (20 + i_)) j := hI4
  show V XW Z cX8_bits RX8 4 (some .long) 0 0 0 B 0 0 4 [(3, .int (nI j)), (1, .long u), (0, .ref (Z.2.2.2 (10 + i_)))] [] (S)
  refine V_iload_n (pc := 4) dX8_bits_4 0 rfl rfl ?_
  refine V_aload_n (pc := 5) dX8_bits_5 2 rfl rfl ?_
  refine Xg_X8_19 (pc := 6) (v := (S.1 (20 + i_))) (by assumption) rfl dX8_bits_6 ?_
  refine V_icmp_ge (pc := 9) (tgt := 41) dX8_bits_9 (by decide) (fun h9 => ?_) (fun h9 => ?_)
  · skip
    have hj : (S.1 (20 + i_)).toNatClampNeg ≤ j := jge h9 (by omega)
    have ej : j = (S.1 (20 + i_)).toNatClampNeg := Nat.le_antisymm hI4.1 hj
    refine V_lload_n (pc := 41) dX8_bits_41 1 rfl rfl ?_
    exact V_lret (pc := 42) dX8_bits_42 (Nat.le_of_ble_eq_true rfl) (Nat.le_of_ble_eq_true rfl) (hB _ _ ⟨congrArg (fun z => some (Value.long z)) (by rw [hI4.2, ej]), by rfl⟩)
  · skip
    have hj : j < (S.1 (20 + i_)).toNatClampNeg := jlt h9 (by omega)
    refine V_iload_n (pc := 12) dX8_bits_12 0 rfl rfl ?_
    refine V_aload_n (pc := 13) dX8_bits_13 2 rfl rfl ?_
    refine Xg_X8_9 (pc := 14) (by assumption) dX8_bits_14 ?_
    refine Xn_it (pc := 17) (by assumption) dX8_bits_17 ?_
    refine V_icmp_ge (pc := 18) (tgt := 41) dX8_bits_18 (by decide) (fun h18 => ?_) (fun h18 => ?_)
    · skip
      exact absurd h18 (Int32.not_le.mpr (nI_lt (b := 40) (by omega) (by decide)))
    · skip
      refine V_lload_n (pc := 21) dX8_bits_21 1 rfl rfl ?_
      refine V_aload_n (pc := 22) dX8_bits_22 2 rfl rfl ?_
      refine Xg_X8_9 (pc := 23) (by assumption) dX8_bits_23 ?_
      refine V_iload_n (pc := 26) dX8_bits_26 0 rfl rfl ?_
      refine Xl_it (pc := 27) (by assumption) dX8_bits_27 (by exact vp_in_nI (by omega) (by decide)) ?_
      refine V_iconst (v := 1) (pc := 28) dX8_bits_28 (by decide) ?_
      refine V_iand (pc := 29) dX8_bits_29 ?_
      refine V_i2l (pc := 30) dX8_bits_30 rfl ?_
      refine V_iload_n (pc := 31) dX8_bits_31 0 rfl rfl ?_
      refine V_lshl (pc := 32) dX8_bits_32 rfl ?_
      refine V_lor (pc := 33) dX8_bits_33 ?_
      refine V_lstore_n (pc := 34) (L2 := [(3, .int (nI j)), (0, .ref (Z.2.2.2 (10 + i_)))]) dX8_bits_34 rfl (by decide) rfl (fun x1_34 ex1_34 => ?_)
      subst ex1_34
      refine V_iinc (pc := 35) (v := 1) (L2 := [(1, .long (u ||| ((Int32.toInt64 ((S.2.2.1 (20 + i_) ((nI j)).toNatClampNeg) &&& 1)) <<< (Int32.toInt64 (nI j) &&& 63)))), (0, .ref (Z.2.2.2 (10 + i_)))]) dX8_bits_35 1 rfl (by decide) (by decide) rfl (fun x3_35 ex3_35 => ?_)
      rw [nI_1] at ex3_35
      subst ex3_35
      refine V_goto (pc := 38) (tgt := 4) dX8_bits_38 (by decide) ?_
      refine V_sub (L' := [(3, .int (nI (j + 1))), (1, .long (u ||| ((Int32.toInt64 ((S.2.2.1 (20 + i_) ((nI j)).toNatClampNeg) &&& 1)) <<< (Int32.toInt64 (nI j) &&& 63)))), (0, .ref (Z.2.2.2 (10 + i_)))]) [0, 1, 2] rfl ?_
      refine ih4 (((j + 1)), _) ?_ ?_
      · show ((j + 1)) ≤ (S.1 (20 + i_)).toNatClampNeg ∧ ((u ||| ((Int32.toInt64 ((S.2.2.1 (20 + i_) ((nI j)).toNatClampNeg) &&& 1)) <<< (Int32.toInt64 (nI j) &&& 63)))) = btL (S.2.2.1 (20 + i_)) ((j + 1))
        refine ⟨hj, ?_⟩
        rw [hI4.2, nI_clamp (by omega)]
        rfl
      · show (S.1 (20 + i_)).toNatClampNeg - (j + 1) < (S.1 (20 + i_)).toNatClampNeg - j
        omega
