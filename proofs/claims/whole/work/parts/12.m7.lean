theorem jgt {b j : Nat} (hb : b < 2 ^ 31) (hj : j < 2 ^ 31) (h : nI b < nI j) : b < j := (nI_ltI hb hj).mp h
theorem jngt {b j : Nat} (hb : b < 2 ^ 31) (hj : j < 2 ^ 31) (h : ¬ nI b < nI j) : j ≤ b := Nat.not_lt.mp fun q => h ((nI_ltI hb hj).mpr q)
/-- the first place from x on, of k places, at which g isn't f -/
def fmis (f g : Nat → Int32) : Nat → Nat → Nat
  | 0, x => x
  | k + 1, x => if g x = f x then fmis f g k (x + 1) else x
def owT (S : MS) (k c t s y : Int32) : Nat := fmis (S.2.2 11) (fun i => (rn k c t i (s, y)).1 &&& 1) (S.1 12).toNatClampNeg 0
def owS (S : MS) (k c t s y : Int32) (n : Nat) : MS := mTh S k c t (rn k c t n (s, y)).1 (rn k c t n (s, y)).2
def zs (z : Int32) (i : Nat) : Int32 := it (fun _ z => z * 1103515245 + 12345) i z
def zix (z : Int32) (i len : Nat) : Nat := (zs z (i + 1)).toBitVec.toNat / 512 % len
def spR (f : Nat → Int32) (z : Int32) (len j : Nat) : Nat → Int32 := it (fun i g => upd g (zix z i len) (g (zix z i len) ^^^ 1)) j f
theorem zx (z : Int32) : (Int32.toUInt32 z >>> (Int32.toUInt32 9 &&& Int32.toUInt32 31)).toInt32 = nI (z.toBitVec.toNat / 512) := by
  have h := pk_ushr z 9 9 (by decide)
  have h2 : z.toBitVec.toNat < 2 ^ 32 := z.toBitVec.isLt
  apply Int32.toBitVec_inj.mp
  apply BitVec.eq_of_toNat_eq
  rw [h, pk_tn (by omega)]
theorem zix_eq (z : Int32) (i : Nat) {len : Nat} (h0 : 0 < len) (hl : len ≤ 40) : (Int32.toUInt32 (zs z (i + 1)) >>> (Int32.toUInt32 9 &&& Int32.toUInt32 31)).toInt32 - (Int32.toUInt32 (zs z (i + 1)) >>> (Int32.toUInt32 9 &&& Int32.toUInt32 31)).toInt32 / nI len * nI len = nI (zix z i len) := by
  have h2 : (zs z (i + 1)).toBitVec.toNat < 2 ^ 32 := (zs z (i + 1)).toBitVec.isLt
  rw [zx, pk_rem (by omega) h0 (by omega)]
  rfl
theorem zix_lt (z : Int32) (i : Nat) {len : Nat} (h0 : 0 < len) : zix z i len < len := Nat.mod_lt _ h0
set_option maxHeartbeats 4000000 in
set_option maxRecDepth 100000 in
theorem cM_otherwise (Z : VZ) (S : MS) (k c t s y : Int32) (hs : (S.1 12).toNatClampNeg ≤ 40) : CtF MW Z yX11_otherwise cX11_otherwise 2 (some .int) 3 0 0 [.ref (Z.2.2.2 99)] (mTh S k c t s y) (some (.int (if owT S k c t s y < (S.1 12).toNatClampNeg then nI (owT S k c t s y) else -1))) (owS S k c t s y (if owT S k c t s y < (S.1 12).toNatClampNeg then owT S k c t s y + 1 else (S.1 12).toNatClampNeg)) := by
  refine V_entry (own := RX11) (by decide) rfl (Nat.le_of_ble_eq_true rfl) ?_
  intro B hB
  refine V_sub (L' := [(0, .ref (Z.2.2.2 99))]) [0] rfl ?_
  refine V_iconst (v := 0) (pc := 0) dX11_otherwise_0 (by decide) ?_
  refine V_istore_n (pc := 1) (L2 := [(0, .ref (Z.2.2.2 99))]) dX11_otherwise_1 rfl (by decide) rfl (fun x1_1 ex1_1 => ?_)
  subst ex1_1
  refine V_sub (L' := [(1, .int (nI 0)), (0, .ref (Z.2.2.2 99))]) [0, 1] rfl ?_
  refine Vloop (σ := Nat) (fun x => x ≤ (S.1 12).toNatClampNeg ∧ fmis (S.2.2 11) (fun i => (rn k c t i (s, y)).1 &&& 1) ((S.1 12).toNatClampNeg - x) x = owT S k c t s y) (fun x => (S.1 12).toNatClampNeg - x) (fun x => V MW Z cX11_otherwise RX11 2 (some .int) 3 0 0 B 0 0 2 [(1, .int (nI x)), (0, .ref (Z.2.2.2 99))] [] (owS S k c t s y x)) ?_ 0 (by exact ⟨Nat.zero_le _, rfl⟩)
  rintro j hI2 ih2
  have hI2 : j ≤ (S.1 12).toNatClampNeg ∧ fmis (S.2.2 11) (fun i => (rn k c t i (s, y)).1 &&& 1) ((S.1 12).toNatClampNeg - j) j = owT S k c t s y := hI2
  show V MW Z cX11_otherwise RX11 2 (some .int) 3 0 0 B 0 0 2 [(1, .int (nI j)), (0, .ref (Z.2.2.2 99))] [] (owS S k c t s y j)
  refine V_iload_n (pc := 2) dX11_otherwise_2 0 rfl rfl ?_
  refine V_aload_n (pc := 3) dX11_otherwise_3 1 rfl rfl ?_
  refine Mg_length (pc := 4) (v := (S.1 12)) rfl dX11_otherwise_4 ?_
  refine V_icmp_ge (pc := 7) (tgt := 31) dX11_otherwise_7 (by decide) (fun h7 => ?_) (fun h7 => ?_)
  · skip
    have hj : (S.1 12).toNatClampNeg ≤ j := jge h7 (Nat.lt_of_le_of_lt hI2.1 (clampLt _))
    have ej : j = (S.1 12).toNatClampNeg := Nat.le_antisymm hI2.1 hj
    refine V_iconst (v := (-1)) (pc := 31) dX11_otherwise_31 (by decide) ?_
    exact V_iret (pc := 32) dX11_otherwise_32 (Nat.le_of_ble_eq_true rfl) (Nat.le_of_ble_eq_true rfl) (hB _ _ ⟨congrArg (fun z => some (Value.int z)) (by have ow := hI2.2; rw [ej, Nat.sub_self] at ow; have o2 : owT S k c t s y = (S.1 12).toNatClampNeg := ow.symm; rw [o2]; exact (if_neg (Nat.lt_irrefl _)).symm), by have ow := hI2.2; rw [ej, Nat.sub_self] at ow; have o2 : owT S k c t s y = (S.1 12).toNatClampNeg := ow.symm; rw [o2, if_neg (Nat.lt_irrefl _), ej]⟩)
  · skip
    have hj : j < (S.1 12).toNatClampNeg := jlt h7 (Nat.lt_of_le_of_lt hI2.1 (clampLt _))
    refine V_aload_n (pc := 10) dX11_otherwise_10 1 rfl rfl ?_
    refine McVi (pc := 11) dX11_otherwise_11 (cM_steps Z _ _ _ _ _ _) kM_144 rfl rfl (Nat.le_of_ble_eq_true rfl) (by decide) (by decide) ?_
    refine V_aload_n (pc := 14) dX11_otherwise_14 1 rfl rfl ?_
    refine Mg_row (pc := 15) dX11_otherwise_15 ?_
    refine V_iload_n (pc := 18) dX11_otherwise_18 0 rfl rfl ?_
    refine Ml_row (pc := 19) dX11_otherwise_19 (by exact vp_in_nI (by omega) (by decide)) ?_
    refine V_icmp_eq (pc := 20) (tgt := 25) dX11_otherwise_20 (by decide) (fun h20 => ?_) (fun h20 => ?_)
    · skip
      rw [nI_clamp (by omega)] at h20
      have h20 : (rn k c t j (s, y)).1 &&& 1 = S.2.2 11 j := h20
      refine V_iinc (pc := 25) (v := 1) (L2 := [(0, .ref (Z.2.2.2 99))]) dX11_otherwise_25 0 rfl (by decide) (by decide) rfl (fun x1_25 ex1_25 => ?_)
      rw [nI_1] at ex1_25
      subst ex1_25
      refine V_goto (pc := 28) (tgt := 2) dX11_otherwise_28 (by decide) ?_
      refine V_sub (L' := [(1, .int (nI (j + 1))), (0, .ref (Z.2.2.2 99))]) [0, 1] rfl ?_
      refine ih2 ((j + 1)) ?_ ?_
      · show ((j + 1)) ≤ (S.1 12).toNatClampNeg ∧ fmis (S.2.2 11) (fun i => (rn k c t i (s, y)).1 &&& 1) ((S.1 12).toNatClampNeg - ((j + 1))) ((j + 1)) = owT S k c t s y
        refine ⟨hj, ?_⟩
        have a3 := hI2.2
        rw [show (S.1 12).toNatClampNeg - j = (S.1 12).toNatClampNeg - (j + 1) + 1 by omega] at a3
        simp only [fmis] at a3
        rw [if_pos h20] at a3
        exact a3
      · show (S.1 12).toNatClampNeg - (j + 1) < (S.1 12).toNatClampNeg - j
        omega
    · skip
      rw [nI_clamp (by omega)] at h20
      have h20 : ¬ (rn k c t j (s, y)).1 &&& 1 = S.2.2 11 j := h20
      have ow : owT S k c t s y = j := by
        have a3 := hI2.2
        rw [show (S.1 12).toNatClampNeg - j = (S.1 12).toNatClampNeg - (j + 1) + 1 by omega] at a3
        simp only [fmis] at a3
        rw [if_neg h20] at a3
        exact a3.symm
      refine V_iload_n (pc := 23) dX11_otherwise_23 0 rfl rfl ?_
      exact V_iret (pc := 24) dX11_otherwise_24 (Nat.le_of_ble_eq_true rfl) (Nat.le_of_ble_eq_true rfl) (hB _ _ ⟨congrArg (fun z => some (Value.int z)) (by rw [ow, if_pos hj]), by rw [ow, if_pos hj]; rfl⟩)
def spS (S : MS) (a : Nat) (z : Int32) (n : Nat) : MS := mA (mF S 12 (S.2.2 33 a)) 11 (spR (rdI S a (S.2.2 33 a).toNatClampNeg) z (S.2.2 33 a).toNatClampNeg n)
set_option maxHeartbeats 4000000 in
set_option maxRecDepth 100000 in
theorem cM_spoils (Z : VZ) (S : MS) (a_ : Int32) (z_ : Int32) (n_ : Int32) (ha : vp_in a_ 4) (hl0 : ∃ l_ : Nat, S.2.2 33 a_.toNatClampNeg = nI l_ ∧ 0 < l_ ∧ l_ ≤ 40) : CtF MW Z yX11_spoils cX11_spoils 6 none 1 0 0 [.ref (Z.2.2.2 99), .int a_, .int z_, .int n_] (S) none (spS S a_.toNatClampNeg z_ n_.toNatClampNeg) := by
  refine V_entry (own := RX11) (by decide) rfl (Nat.le_of_ble_eq_true rfl) ?_
  intro B hB
  obtain ⟨l_, hl⟩ := hl0
  refine V_sub (L' := [(0, .ref (Z.2.2.2 99)), (1, .int a_), (2, .int z_), (3, .int n_)]) [0, 1, 2, 3] rfl ?_
  refine V_aload_n (pc := 0) dX11_spoils_0 0 rfl rfl ?_
  refine V_iload_n (pc := 1) dX11_spoils_1 1 rfl rfl ?_
  refine McVv (pc := 2) dX11_spoils_2 (cM_reads Z _ _ (by exact ha) (by rw [hl.1, nI_clamp (by omega)]; exact hl.2.2)) kM_165 rfl rfl (Nat.le_of_ble_eq_true rfl) (by decide) (by decide) ?_
  refine V_eqS (mA (mF S 12 (nI l_)) 11 (spR (rdI S a_.toNatClampNeg l_) z_ l_ 0)) (by rw [mRd, hl.1, nI_clamp (by omega)]; rfl) ?_
  refine V_iload_n (pc := 5) dX11_spoils_5 2 rfl rfl ?_
  refine V_istore (pc := 6) (L2 := [(0, .ref (Z.2.2.2 99)), (1, .int a_), (2, .int z_), (3, .int n_)]) dX11_spoils_6 (by decide) rfl (fun x4_6 ex4_6 => ?_)
  subst ex4_6
  refine V_iconst (v := 0) (pc := 8) dX11_spoils_8 (by decide) ?_
  refine V_istore (pc := 9) (L2 := [(4, .int z_), (0, .ref (Z.2.2.2 99)), (1, .int a_), (2, .int z_), (3, .int n_)]) dX11_spoils_9 (by decide) rfl (fun x5_9 ex5_9 => ?_)
  subst ex5_9
  refine V_sub (L' := [(5, .int (nI 0)), (4, .int z_), (0, .ref (Z.2.2.2 99)), (1, .int a_), (2, .int z_), (3, .int n_)]) [0, 1, 2, 3, 4, 5] rfl ?_
  refine Vloop (σ := Nat × Int32) (fun x => (x.1) ≤ n_.toNatClampNeg ∧ (x.2) = zs z_ (x.1)) (fun x => n_.toNatClampNeg - (x.1)) (fun x => V MW Z cX11_spoils RX11 6 none 1 0 0 B 0 0 11 [(5, .int (nI (x.1))), (4, .int (x.2)), (0, .ref (Z.2.2.2 99)), (1, .int a_), (2, .int z_), (3, .int n_)] [] (mA (mF S 12 (nI l_)) 11 (spR (rdI S a_.toNatClampNeg l_) z_ l_ (x.1)))) ?_ (0, z_) (by exact ⟨Nat.zero_le _, rfl⟩)
  rintro ⟨j, u⟩ hI11 ih11
  have hI11 : j ≤ n_.toNatClampNeg ∧ u = zs z_ j := hI11
  show V MW Z cX11_spoils RX11 6 none 1 0 0 B 0 0 11 [(5, .int (nI j)), (4, .int u), (0, .ref (Z.2.2.2 99)), (1, .int a_), (2, .int z_), (3, .int n_)] [] (mA (mF S 12 (nI l_)) 11 (spR (rdI S a_.toNatClampNeg l_) z_ l_ j))
  refine V_iload (pc := 11) dX11_spoils_11 0 rfl ?_
  refine V_iload_n (pc := 13) dX11_spoils_13 5 rfl rfl ?_
  refine V_icmp_ge (pc := 14) (tgt := 53) dX11_spoils_14 (by decide) (fun h14 => ?_) (fun h14 => ?_)
  · skip
    have hj : n_.toNatClampNeg ≤ j := jge h14 (Nat.lt_of_le_of_lt hI11.1 (clampLt _))
    have ej : j = n_.toNatClampNeg := Nat.le_antisymm hI11.1 hj
    exact V_vret (pc := 53) dX11_spoils_53 (Nat.le_of_ble_eq_true rfl) (Nat.le_of_ble_eq_true rfl) (hB _ _ ⟨rfl, by rw [ej]; unfold spS; rw [hl.1, nI_clamp (by omega)]⟩)
  · skip
    have hj : j < n_.toNatClampNeg := jlt h14 (Nat.lt_of_le_of_lt hI11.1 (clampLt _))
    refine V_iload (pc := 17) dX11_spoils_17 1 rfl ?_
    refine V_ldc (pc := 19) dX11_spoils_19 tw_1217 ?_
    refine V_imul (pc := 21) dX11_spoils_21 ?_
    refine V_sipush (v := 12345) (pc := 22) dX11_spoils_22 (by decide) ?_
    refine V_iadd (pc := 25) dX11_spoils_25 ?_
    refine V_istore (pc := 26) (L2 := [(5, .int (nI j)), (0, .ref (Z.2.2.2 99)), (1, .int a_), (2, .int z_), (3, .int n_)]) dX11_spoils_26 (by decide) rfl (fun x4_26 ex4_26 => ?_)
    subst ex4_26
    have ez : u * 1103515245 + 12345 = zs z_ (j + 1) := by rw [hI11.2]; rfl
    have zq := zix_eq z_ j hl.2.1 hl.2.2
    rw [← ez] at zq
    refine V_aload_n (pc := 28) dX11_spoils_28 2 rfl rfl ?_
    refine Mg_row (pc := 29) dX11_spoils_29 ?_
    refine V_iload (pc := 32) dX11_spoils_32 0 rfl ?_
    refine V_bipush (v := 9) (pc := 34) dX11_spoils_34 (by decide) ?_
    refine V_iushr (pc := 36) dX11_spoils_36 rfl ?_
    refine V_aload_n (pc := 37) dX11_spoils_37 2 rfl rfl ?_
    refine Mg_length (pc := 38) (v := (nI l_)) rfl dX11_spoils_38 ?_
    refine V_irem (pc := 41) dX11_spoils_41 (by exact nI_ne0 hl.2.1 (by omega)) ?_
    refine V_eqi _ zq ?_
    refine V_dup2_11 (pc := 42) dX11_spoils_42 rfl rfl ?_
    refine Ml_row (pc := 43) dX11_spoils_43 (by exact vp_in_nI (Nat.lt_of_lt_of_le (zix_lt z_ j hl.2.1) hl.2.2) (by decide)) ?_
    refine V_iconst (v := 1) (pc := 44) dX11_spoils_44 (by decide) ?_
    refine V_ixor (pc := 45) dX11_spoils_45 ?_
    refine Ms_row (pc := 46) dX11_spoils_46 (by exact vp_in_nI (Nat.lt_of_lt_of_le (zix_lt z_ j hl.2.1) hl.2.2) (by decide)) ?_
    refine V_eqS (mA (mF S 12 (nI l_)) 11 (spR (rdI S a_.toNatClampNeg l_) z_ l_ (j + 1))) (by
        have hz := zix_lt z_ j hl.2.1
        refine (mA_mA _ 11 _ _).trans ?_
        rw [nI_clamp (by omega)]
        rfl) ?_
    refine V_iinc (pc := 47) (v := 1) (L2 := [(4, .int ((u * (1103515245)) + 12345)), (0, .ref (Z.2.2.2 99)), (1, .int a_), (2, .int z_), (3, .int n_)]) dX11_spoils_47 1 rfl (by decide) (by decide) rfl (fun x5_47 ex5_47 => ?_)
    rw [nI_1] at ex5_47
    subst ex5_47
    refine V_goto (pc := 50) (tgt := 11) dX11_spoils_50 (by decide) ?_
    refine V_sub (L' := [(5, .int (nI (j + 1))), (4, .int ((u * (1103515245)) + 12345)), (0, .ref (Z.2.2.2 99)), (1, .int a_), (2, .int z_), (3, .int n_)]) [0, 1, 2, 3, 4, 5] rfl ?_
    refine ih11 (((j + 1)), _) ?_ ?_
    · show ((j + 1)) ≤ n_.toNatClampNeg ∧ (((u * (1103515245)) + 12345)) = zs z_ ((j + 1))
      exact ⟨hj, by rw [hI11.2]; rfl⟩
    · show n_.toNatClampNeg - (j + 1) < n_.toNatClampNeg - j
      omega
set_option maxHeartbeats 4000000 in
set_option maxRecDepth 100000 in
theorem cM_isAt (Z : VZ) (S : MS) (a_ : Int32) (b_ : Int32) (ht : ¬ S.1 21 ≤ S.1 22 → vp_in (S.1 22) 60) : CtF MW Z yX11_isAt cX11_isAt 3 (some .boolean) 1 0 0 [.ref (Z.2.2.2 99), .int a_, .int b_] (S) (some (.int (bI (¬ S.1 21 ≤ S.1 22 ∧ (a_ ≤ S.2.2 20 (S.1 22).toNatClampNeg ∧ S.2.2 20 (S.1 22).toNatClampNeg ≤ b_))))) (S) := by
  refine V_entry (own := RX11) (by decide) rfl (Nat.le_of_ble_eq_true rfl) ?_
  intro B hB
  refine V_sub (L' := [(0, .ref (Z.2.2.2 99)), (1, .int a_), (2, .int b_)]) [0, 1, 2] rfl ?_
  refine V_aload_n (pc := 0) dX11_isAt_0 0 rfl rfl ?_
  refine Mg_at (pc := 1) (v := (S.1 22)) rfl dX11_isAt_1 ?_
  refine V_aload_n (pc := 4) dX11_isAt_4 0 rfl rfl ?_
  refine Mg_taped (pc := 5) (v := (S.1 21)) rfl dX11_isAt_5 ?_
  refine V_icmp_ge (pc := 8) (tgt := 32) dX11_isAt_8 (by decide) (fun h8 => ?_) (fun h8 => ?_)
  · skip
    refine V_iconst (v := 0) (pc := 32) dX11_isAt_32 (by decide) ?_
    exact V_zret (pc := 33) dX11_isAt_33 (Nat.le_of_ble_eq_true rfl) (Nat.le_of_ble_eq_true rfl) (Or.inl rfl) (hB _ _ ⟨congrArg (fun z => some (Value.int z)) (by exact (bI_f (fun h => h.1 h8)).symm), by rfl⟩)
  · skip
    refine V_aload_n (pc := 11) dX11_isAt_11 0 rfl rfl ?_
    refine Mg_tape (pc := 12) dX11_isAt_12 ?_
    refine V_aload_n (pc := 15) dX11_isAt_15 0 rfl rfl ?_
    refine Mg_at (pc := 16) (v := (S.1 22)) rfl dX11_isAt_16 ?_
    refine Ml_tape (pc := 19) dX11_isAt_19 (by exact ht h8) ?_
    refine V_iload_n (pc := 20) dX11_isAt_20 1 rfl rfl ?_
    refine V_iload_n (pc := 21) dX11_isAt_21 2 rfl rfl ?_
    refine McSi (pc := 22) dX11_isAt_22 (cM_in Z _ _ _ _) kM_70 rfl (Nat.le_of_ble_eq_true rfl) (by decide) (by decide) ?_
    refine V_bif_eq (pc := 25) (tgt := 32) dX11_isAt_25 (by decide) (fun h25 => ?_) (fun h25 => ?_)
    · skip
      refine V_iconst (v := 0) (pc := 32) dX11_isAt_32 (by decide) ?_
      exact V_zret (pc := 33) dX11_isAt_33 (Nat.le_of_ble_eq_true rfl) (Nat.le_of_ble_eq_true rfl) (Or.inl rfl) (hB _ _ ⟨congrArg (fun z => some (Value.int z)) (by first | exact (bI_t ⟨h8, h25⟩).symm | exact (bI_f (fun h => h25 h.2)).symm), by rfl⟩)
    · skip
      refine V_iconst (v := 1) (pc := 28) dX11_isAt_28 (by decide) ?_
      refine V_goto (pc := 29) (tgt := 33) dX11_isAt_29 (by decide) ?_
      exact V_zret (pc := 33) dX11_isAt_33 (Nat.le_of_ble_eq_true rfl) (Nat.le_of_ble_eq_true rfl) (Or.inr rfl) (hB _ _ ⟨congrArg (fun z => some (Value.int z)) (by first | exact (bI_t ⟨h8, h25⟩).symm | exact (bI_f (fun h => h25 h.2)).symm), by rfl⟩)
abbrev BQ : Type := Nat × Nat × (Nat → Int32) × (Nat → Int32) × (Nat → Int32)
def bmO (law f : Nat → Int32) (n j : Nat) : Int32 := it (fun i a => a ^^^ (law i &&& f (n - i))) j 0
def bmU (law was : Nat → Int32) (gap j : Nat) : Nat → Int32 := it (fun i g => upd g (i + gap) (g (i + gap) ^^^ was i)) j law
def bmS (f : Nat → Int32) (n : Nat) (q : BQ) : BQ :=
  if bmO q.2.2.1 f n (q.1 + 1) = 0 then (q.1, q.2.1 + 1, q.2.2.1, q.2.2.2.1, q.2.2.2.2)
  else if 2 * q.1 ≤ n then (n + 1 - q.1, 1, bmU q.2.2.1 q.2.2.2.1 q.2.1 (41 - q.2.1), va_cpy (va_cpy q.2.2.1 q.2.2.2.2 0 0 41) q.2.2.2.1 0 0 41, va_cpy q.2.2.1 q.2.2.2.2 0 0 41)
  else (q.1, q.2.1 + 1, bmU q.2.2.1 q.2.2.2.1 q.2.1 (41 - q.2.1), q.2.2.2.1, va_cpy q.2.2.1 q.2.2.2.2 0 0 41)
def bm (f : Nat → Int32) (q : BQ) (n : Nat) : BQ := it (fun n q => bmS f n q) n q
theorem bm_inv (f : Nat → Int32) (q : BQ) (h1 : q.1 = 0) (h2 : q.2.1 = 1) (n : Nat) : (bm f q n).1 ≤ n ∧ 1 ≤ (bm f q n).2.1 ∧ (bm f q n).2.1 ≤ n + 1 := by
  induction n with
  | zero => exact ⟨Nat.le_of_eq h1, Nat.le_of_eq h2.symm, Nat.le_of_eq h2⟩
  | succ n ih =>
    show (bmS f n (bm f q n)).1 ≤ n + 1 ∧ 1 ≤ (bmS f n (bm f q n)).2.1 ∧ (bmS f n (bm f q n)).2.1 ≤ n + 1 + 1
    unfold bmS
    split
    · exact ⟨by show (bm f q n).1 ≤ n + 1; omega, by show 1 ≤ (bm f q n).2.1 + 1; omega, by show (bm f q n).2.1 + 1 ≤ _; omega⟩
    · split
      · exact ⟨by show n + 1 - (bm f q n).1 ≤ n + 1; omega, Nat.le_refl _, by show 1 ≤ _; omega⟩
      · exact ⟨by show (bm f q n).1 ≤ n + 1; omega, by show 1 ≤ (bm f q n).2.1 + 1; omega, by show (bm f q n).2.1 + 1 ≤ _; omega⟩
def lw0 (f : Nat → Int32) (j : Nat) : Nat → Int32 := it (fun i g => upd g i (if i = 0 then 1 else 0)) j f
def bm0 (S : MS) : BQ := (0, 1, lw0 (S.2.2 16) 41, lw0 (S.2.2 17) 41, S.2.2 18)
def lwS (S : MS) (law was kept : Nat → Int32) : MS := mA (mA (mA S 16 law) 17 was) 18 kept
abbrev mBm (S : MS) (n : Nat) : BQ := bm (S.2.2 11) (bm0 S) n
theorem bm_a {S : MS} {n : Nat} (h : bmO (mBm S n).2.2.1 (S.2.2 11) n ((mBm S n).1 + 1) = 0) : mBm S (n + 1) = ((mBm S n).1, (mBm S n).2.1 + 1, (mBm S n).2.2.1, (mBm S n).2.2.2.1, (mBm S n).2.2.2.2) := if_pos h
theorem bm_b {S : MS} {n : Nat} (h : ¬ bmO (mBm S n).2.2.1 (S.2.2 11) n ((mBm S n).1 + 1) = 0) (h2 : 2 * (mBm S n).1 ≤ n) : mBm S (n + 1) = (n + 1 - (mBm S n).1, 1, bmU (mBm S n).2.2.1 (mBm S n).2.2.2.1 (mBm S n).2.1 (41 - (mBm S n).2.1), va_cpy (va_cpy (mBm S n).2.2.1 (mBm S n).2.2.2.2 0 0 41) (mBm S n).2.2.2.1 0 0 41, va_cpy (mBm S n).2.2.1 (mBm S n).2.2.2.2 0 0 41) := (if_neg h).trans (if_pos h2)
theorem bm_c {S : MS} {n : Nat} (h : ¬ bmO (mBm S n).2.2.1 (S.2.2 11) n ((mBm S n).1 + 1) = 0) (h2 : ¬ 2 * (mBm S n).1 ≤ n) : mBm S (n + 1) = ((mBm S n).1, (mBm S n).2.1 + 1, bmU (mBm S n).2.2.1 (mBm S n).2.2.2.1 (mBm S n).2.1 (41 - (mBm S n).2.1), (mBm S n).2.2.2.1, va_cpy (mBm S n).2.2.1 (mBm S n).2.2.2.2 0 0 41) := (if_neg h).trans (if_neg h2)
def mLaw (S : MS) : MS := lwS S (mBm S (S.1 12).toNatClampNeg).2.2.1 (mBm S (S.1 12).toNatClampNeg).2.2.2.1 (mBm S (S.1 12).toNatClampNeg).2.2.2.2
theorem lwS16 (S : MS) (a b c g : Nat → Int32) : mA (lwS S a b c) 16 g = lwS S g b c := by
  refine Prod.ext rfl (Prod.ext rfl (funext fun j => ?_))
  simp only [lwS, mA, va_up]
  repeat' split
  all_goals first | rfl | omega
theorem lwS17 (S : MS) (a b c g : Nat → Int32) : mA (lwS S a b c) 17 g = lwS S a g c := by
  refine Prod.ext rfl (Prod.ext rfl (funext fun j => ?_))
  simp only [lwS, mA, va_up]
  repeat' split
  all_goals first | rfl | omega
theorem lwS18 (S : MS) (a b c g : Nat → Int32) : mA (lwS S a b c) 18 g = lwS S a b g := by
  refine Prod.ext rfl (Prod.ext rfl (funext fun j => ?_))
  simp only [lwS, mA, va_up]
  repeat' split
  all_goals first | rfl | omega
theorem lwS_self (S : MS) : S = lwS S (S.2.2 16) (S.2.2 17) (S.2.2 18) := by
  refine Prod.ext rfl (Prod.ext rfl (funext fun j => ?_))
  simp only [lwS, mA, va_up]
  repeat' split
  all_goals first | rfl | (subst_vars; rfl)
set_option maxHeartbeats 4000000 in
set_option maxRecDepth 100000 in
theorem cM_layLaw (Z : VZ) (S : MS) (hs : (S.1 12).toNatClampNeg ≤ 40) : CtF MW Z yX11_layLaw cX11_layLaw 7 (some .int) 1 0 0 [.ref (Z.2.2.2 99)] (S) (some (.int (nI (mBm S (S.1 12).toNatClampNeg).1))) (mLaw S) := by
  refine V_entry (own := RX11) (by decide) rfl (Nat.le_of_ble_eq_true rfl) ?_
  intro B hB
  refine V_sub (L' := [(0, .ref (Z.2.2.2 99))]) [0] rfl ?_
  refine V_iconst (v := 0) (pc := 0) dX11_layLaw_0 (by decide) ?_
  refine V_istore_n (pc := 1) (L2 := [(0, .ref (Z.2.2.2 99))]) dX11_layLaw_1 rfl (by decide) rfl (fun x1_1 ex1_1 => ?_)
  subst ex1_1
  refine V_eqS _ (lwS_self S) ?_
  refine V_sub (L' := [(1, .int (nI 0)), (0, .ref (Z.2.2.2 99))]) [0, 1] rfl ?_
  refine Vloop (σ := Nat) (fun x => x ≤ 41) (fun x => 41 - x) (fun x => V MW Z cX11_layLaw RX11 7 (some .int) 1 0 0 B 0 0 2 [(1, .int (nI x)), (0, .ref (Z.2.2.2 99))] [] (lwS S (lw0 (S.2.2 16) x) (lw0 (S.2.2 17) x) (S.2.2 18))) ?_ 0 (by exact Nat.zero_le _)
  rintro j hI2 ih2
  have hI2 : j ≤ 41 := hI2
  show V MW Z cX11_layLaw RX11 7 (some .int) 1 0 0 B 0 0 2 [(1, .int (nI j)), (0, .ref (Z.2.2.2 99))] [] (lwS S (lw0 (S.2.2 16) j) (lw0 (S.2.2 17) j) (S.2.2 18))
  refine V_iload_n (pc := 2) dX11_layLaw_2 0 rfl rfl ?_
  refine V_bipush (v := 40) (pc := 3) dX11_layLaw_3 (by decide) ?_
  refine V_icmp_gt (pc := 5) (tgt := 41) dX11_layLaw_5 (by decide) (fun h5 => ?_) (fun h5 => ?_)
  · skip
    have hj : 40 < j := jgt (b := 40) (by decide) (by omega) h5
    have ej : j = 41 := by omega
    refine V_eqS (lwS S (mBm S 0).2.2.1 (mBm S 0).2.2.2.1 (mBm S 0).2.2.2.2) (by rw [ej]; rfl) ?_
    refine V_iconst (v := 0) (pc := 41) dX11_layLaw_41 (by decide) ?_
    refine V_istore_n (pc := 42) (L2 := [(0, .ref (Z.2.2.2 99))]) dX11_layLaw_42 rfl (by decide) rfl (fun x1_42 ex1_42 => ?_)
    subst ex1_42
    refine V_iconst (v := 1) (pc := 43) dX11_layLaw_43 (by decide) ?_
    refine V_istore_n (pc := 44) (L2 := [(1, .int 0), (0, .ref (Z.2.2.2 99))]) dX11_layLaw_44 rfl (by decide) rfl (fun x2_44 ex2_44 => ?_)
    subst ex2_44
    refine V_iconst (v := 0) (pc := 45) dX11_layLaw_45 (by decide) ?_
    refine V_istore_n (pc := 46) (L2 := [(2, .int 1), (1, .int 0), (0, .ref (Z.2.2.2 99))]) dX11_layLaw_46 rfl (by decide) rfl (fun x3_46 ex3_46 => ?_)
    subst ex3_46
    refine V_sub (L' := [(3, .int (nI 0)), (2, .int 1), (1, .int 0), (0, .ref (Z.2.2.2 99))]) [0, 1, 2, 3] rfl ?_
    refine Vloop (σ := Nat × Int32 × Int32) (fun x => (x.1) ≤ (S.1 12).toNatClampNeg ∧ (x.2.2) = nI (mBm S (x.1)).1 ∧ (x.2.1) = nI (mBm S (x.1)).2.1) (fun x => (S.1 12).toNatClampNeg - (x.1)) (fun x => V MW Z cX11_layLaw RX11 7 (some .int) 1 0 0 B 0 0 47 [(3, .int (nI (x.1))), (2, .int (x.2.1)), (1, .int (x.2.2)), (0, .ref (Z.2.2.2 99))] [] (lwS S (mBm S (x.1)).2.2.1 (mBm S (x.1)).2.2.2.1 (mBm S (x.1)).2.2.2.2)) ?_ (0, 1, 0) (by exact ⟨Nat.zero_le _, rfl, rfl⟩)
    rintro ⟨n_, x2_, x1_⟩ hI47 ih47
    have hI47 : n_ ≤ (S.1 12).toNatClampNeg ∧ x1_ = nI (mBm S n_).1 ∧ x2_ = nI (mBm S n_).2.1 := hI47
    show V MW Z cX11_layLaw RX11 7 (some .int) 1 0 0 B 0 0 47 [(3, .int (nI n_)), (2, .int x2_), (1, .int x1_), (0, .ref (Z.2.2.2 99))] [] (lwS S (mBm S n_).2.2.1 (mBm S n_).2.2.2.1 (mBm S n_).2.2.2.2)
    refine V_iload_n (pc := 47) dX11_layLaw_47 0 rfl rfl ?_
    refine V_aload_n (pc := 48) dX11_layLaw_48 3 rfl rfl ?_
    refine Mg_length (pc := 49) (v := (S.1 12)) rfl dX11_layLaw_49 ?_
    refine V_icmp_ge (pc := 52) (tgt := 212) dX11_layLaw_52 (by decide) (fun h52 => ?_) (fun h52 => ?_)
    · skip
      have hn : (S.1 12).toNatClampNeg ≤ n_ := jge h52 (by omega)
      have en : n_ = (S.1 12).toNatClampNeg := Nat.le_antisymm hI47.1 hn
      refine V_iload_n (pc := 212) dX11_layLaw_212 2 rfl rfl ?_
      exact V_iret (pc := 213) dX11_layLaw_213 (Nat.le_of_ble_eq_true rfl) (Nat.le_of_ble_eq_true rfl) (hB _ _ ⟨congrArg (fun z => some (Value.int z)) (by rw [hI47.2.1, en]), by rw [en]; rfl⟩)
    · skip
      have hn : n_ < (S.1 12).toNatClampNeg := jlt h52 (by omega)
      have hv : (mBm S n_).1 ≤ n_ ∧ 1 ≤ (mBm S n_).2.1 ∧ (mBm S n_).2.1 ≤ n_ + 1 := bm_inv (S.2.2 11) (bm0 S) rfl rfl n_
      refine V_iconst (v := 0) (pc := 55) dX11_layLaw_55 (by decide) ?_
      refine V_istore (pc := 56) (L2 := [(3, .int (nI n_)), (2, .int x2_), (1, .int x1_), (0, .ref (Z.2.2.2 99))]) dX11_layLaw_56 (by decide) rfl (fun x4_56 ex4_56 => ?_)
      subst ex4_56
      refine V_iconst (v := 0) (pc := 58) dX11_layLaw_58 (by decide) ?_
      refine V_istore (pc := 59) (L2 := [(4, .int 0), (3, .int (nI n_)), (2, .int x2_), (1, .int x1_), (0, .ref (Z.2.2.2 99))]) dX11_layLaw_59 (by decide) rfl (fun x5_59 ex5_59 => ?_)
      subst ex5_59
      refine V_sub (L' := [(5, .int (nI 0)), (4, .int 0), (3, .int (nI n_)), (2, .int x2_), (1, .int x1_), (0, .ref (Z.2.2.2 99))]) [0, 1, 2, 3, 4, 5] rfl ?_
      refine Vloop (σ := Nat × Int32) (fun x => (x.1) ≤ (mBm S n_).1 + 1 ∧ (x.2) = bmO (mBm S n_).2.2.1 (S.2.2 11) n_ (x.1)) (fun x => (mBm S n_).1 + 1 - (x.1)) (fun x => V MW Z cX11_layLaw RX11 7 (some .int) 1 0 0 B 0 0 61 [(5, .int (nI (x.1))), (4, .int (x.2)), (3, .int (nI n_)), (2, .int x2_), (1, .int x1_), (0, .ref (Z.2.2.2 99))] [] (lwS S (mBm S n_).2.2.1 (mBm S n_).2.2.2.1 (mBm S n_).2.2.2.2)) ?_ (0, 0) (by exact ⟨Nat.zero_le _, rfl⟩)
      rintro ⟨j, u⟩ hI61 ih61
      have hI61 : j ≤ (mBm S n_).1 + 1 ∧ u = bmO (mBm S n_).2.2.1 (S.2.2 11) n_ j := hI61
      show V MW Z cX11_layLaw RX11 7 (some .int) 1 0 0 B 0 0 61 [(5, .int (nI j)), (4, .int u), (3, .int (nI n_)), (2, .int x2_), (1, .int x1_), (0, .ref (Z.2.2.2 99))] [] (lwS S (mBm S n_).2.2.1 (mBm S n_).2.2.2.1 (mBm S n_).2.2.2.2)
      refine V_iload (pc := 61) dX11_layLaw_61 0 rfl ?_
      refine V_iload_n (pc := 63) dX11_layLaw_63 4 rfl rfl ?_
      refine V_icmp_gt (pc := 64) (tgt := 95) dX11_layLaw_64 (by decide) (fun h64 => ?_) (fun h64 => ?_)
      · skip
        rw [hI47.2.1] at h64
        have hj : (mBm S n_).1 < j := jgt (by omega) (by omega) h64
        have ej : j = (mBm S n_).1 + 1 := by omega
        refine V_iload (pc := 95) dX11_layLaw_95 1 rfl ?_
        refine V_if_ne (pc := 97) (tgt := 106) dX11_layLaw_97 (by decide) (fun h97 => ?_) (fun h97 => ?_)
        · skip
          have ho : ¬ bmO (mBm S n_).2.2.1 (S.2.2 11) n_ ((mBm S n_).1 + 1) = 0 := by rw [← ej, ← hI61.2]; exact h97
          refine V_iconst (v := 2) (pc := 106) dX11_layLaw_106 (by decide) ?_
          refine V_iload_n (pc := 107) dX11_layLaw_107 4 rfl rfl ?_
          refine V_imul (pc := 108) dX11_layLaw_108 ?_
          refine V_iload_n (pc := 109) dX11_layLaw_109 2 rfl rfl ?_
          refine V_icmp_gt (pc := 110) (tgt := 117) dX11_layLaw_110 (by decide) (fun h110 => ?_) (fun h110 => ?_)
          · skip
            rw [hI47.2.1, show (2 : Int32) = nI 2 from rfl, pk_mul] at h110
            have h2 : ¬ 2 * (mBm S n_).1 ≤ n_ := Nat.not_le.mpr (jgt (by omega) (by omega) h110)
            refine V_iconst (v := 0) (pc := 117) dX11_layLaw_117 (by decide) ?_
            refine V_istore (pc := 118) (L2 := [(4, .int u), (3, .int (nI n_)), (2, .int x2_), (1, .int x1_), (0, .ref (Z.2.2.2 99))]) dX11_layLaw_118 (by decide) rfl (fun x5_118 ex5_118 => ?_)
            subst ex5_118
            refine V_aload_n (pc := 120) dX11_layLaw_120 5 rfl rfl ?_
            refine Mg_law (pc := 121) dX11_layLaw_121 ?_
            refine V_iconst (v := 0) (pc := 124) dX11_layLaw_124 (by decide) ?_
            refine V_aload_n (pc := 125) dX11_layLaw_125 5 rfl rfl ?_
            refine Mg_lawKept (pc := 126) dX11_layLaw_126 ?_
            refine V_iconst (v := 0) (pc := 129) dX11_layLaw_129 (by decide) ?_
            refine V_bipush (v := 41) (pc := 130) dX11_layLaw_130 (by decide) ?_
            refine Mcpy_16_18 (pc := 132) dX11_layLaw_132 (by decide) (by decide) (by decide) (by decide) (by decide) (by decide) (Nat.le_of_ble_eq_true rfl) ?_
            refine V_eqS (lwS S (mBm S n_).2.2.1 (mBm S n_).2.2.2.1 (va_cpy (mBm S n_).2.2.1 (mBm S n_).2.2.2.2 0 0 41)) (lwS18 _ _ _ _ _) ?_
            refine V_iconst (v := 0) (pc := 135) dX11_layLaw_135 (by decide) ?_
            refine V_istore (pc := 136) (L2 := [(5, .int 0), (4, .int u), (3, .int (nI n_)), (2, .int x2_), (1, .int x1_), (0, .ref (Z.2.2.2 99))]) dX11_layLaw_136 (by decide) rfl (fun x6_136 ex6_136 => ?_)
            subst ex6_136
            refine V_sub (L' := [(6, .int (nI 0)), (5, .int 0), (4, .int u), (3, .int (nI n_)), (2, .int x2_), (1, .int x1_), (0, .ref (Z.2.2.2 99))]) [0, 1, 2, 3, 4, 5, 6] rfl ?_
            refine Vloop (σ := Nat) (fun x => x ≤ 41 - (mBm S n_).2.1) (fun x => 41 - x) (fun x => V MW Z cX11_layLaw RX11 7 (some .int) 1 0 0 B 0 0 138 [(6, .int (nI x)), (5, .int 0), (4, .int u), (3, .int (nI n_)), (2, .int x2_), (1, .int x1_), (0, .ref (Z.2.2.2 99))] [] (lwS S (bmU (mBm S n_).2.2.1 (mBm S n_).2.2.2.1 (mBm S n_).2.1 x) (mBm S n_).2.2.2.1 (va_cpy (mBm S n_).2.2.1 (mBm S n_).2.2.2.2 0 0 41))) ?_ 0 (by exact Nat.zero_le _)
            rintro j hI138 ih138
            have hI138 : j ≤ 41 - (mBm S n_).2.1 := hI138
            show V MW Z cX11_layLaw RX11 7 (some .int) 1 0 0 B 0 0 138 [(6, .int (nI j)), (5, .int 0), (4, .int u), (3, .int (nI n_)), (2, .int x2_), (1, .int x1_), (0, .ref (Z.2.2.2 99))] [] (lwS S (bmU (mBm S n_).2.2.1 (mBm S n_).2.2.2.1 (mBm S n_).2.1 j) (mBm S n_).2.2.2.1 (va_cpy (mBm S n_).2.2.1 (mBm S n_).2.2.2.2 0 0 41))
            refine V_iload (pc := 138) dX11_layLaw_138 0 rfl ?_
            refine V_iload_n (pc := 140) dX11_layLaw_140 4 rfl rfl ?_
            refine V_iadd (pc := 141) dX11_layLaw_141 ?_
            refine V_bipush (v := 40) (pc := 142) dX11_layLaw_142 (by decide) ?_
            refine V_icmp_gt (pc := 144) (tgt := 172) dX11_layLaw_144 (by decide) (fun h144 => ?_) (fun h144 => ?_)
            · skip
              rw [hI47.2.2, nI_add] at h144
              have hj0 : 40 < j + (mBm S n_).2.1 := jgt (b := 40) (by decide) (by omega) h144
              have ej2 : j = 41 - (mBm S n_).2.1 := by omega
              refine V_iload (pc := 172) dX11_layLaw_172 1 rfl ?_
              refine V_if_eq (pc := 174) (tgt := 203) dX11_layLaw_174 (by decide) (fun h174 => ?_) (fun h174 => ?_)
              · skip
                have e1 := bm_c (S := S) (n := n_) ho h2
                refine V_eqS (lwS S (mBm S (n_ + 1)).2.2.1 (mBm S (n_ + 1)).2.2.2.1 (mBm S (n_ + 1)).2.2.2.2) (by rw [e1, ej2]) ?_
                refine V_iinc (pc := 203) (v := 1) (L2 := [(6, .int (nI j)), (5, .int 0), (4, .int u), (3, .int (nI n_)), (1, .int x1_), (0, .ref (Z.2.2.2 99))]) dX11_layLaw_203 4 rfl (by decide) (by decide) rfl (fun x2_203 ex2_203 => ?_)
                subst ex2_203
                refine V_iinc (pc := 206) (v := 1) (L2 := [(2, .int (x2_ + 1)), (6, .int (nI j)), (5, .int 0), (4, .int u), (1, .int x1_), (0, .ref (Z.2.2.2 99))]) dX11_layLaw_206 4 rfl (by decide) (by decide) rfl (fun x3_206 ex3_206 => ?_)
                rw [nI_1] at ex3_206
                subst ex3_206
                refine V_goto (pc := 209) (tgt := 47) dX11_layLaw_209 (by decide) ?_
                refine V_sub (L' := [(3, .int (nI (n_ + 1))), (2, .int (x2_ + 1)), (1, .int x1_), (0, .ref (Z.2.2.2 99))]) [0, 1, 5, 6] rfl ?_
                refine ih47 (((n_ + 1)), _, _) ?_ ?_
                · show ((n_ + 1)) ≤ (S.1 12).toNatClampNeg ∧ (x1_) = nI (mBm S ((n_ + 1))).1 ∧ ((x2_ + 1)) = nI (mBm S ((n_ + 1))).2.1
                  refine ⟨hn, ?_, ?_⟩
                  · show _ = nI (mBm S (n_ + 1)).1
                    rw [e1]
                    first | exact hI47.2.1 | (rw [← exl_, hI47.2.1, nI_1, pk_sub (by omega)])
                  · show _ = nI (mBm S (n_ + 1)).2.1
                    rw [e1]
                    first | rfl | (rw [hI47.2.2]; exact nI_1 _)
                · show (S.1 12).toNatClampNeg - (n_ + 1) < (S.1 12).toNatClampNeg - n_
                  omega
              · skip
                first | exact absurd h174 (by decide) | exact absurd rfl h174
            · skip
              rw [hI47.2.2, nI_add] at h144
              have hj0 : j + (mBm S n_).2.1 ≤ 40 := jngt (b := 40) (by decide) (by omega) h144
              have hj : j + 1 ≤ 41 - (mBm S n_).2.1 := by omega
              refine V_aload_n (pc := 147) dX11_layLaw_147 6 rfl rfl ?_
              refine Mg_law (pc := 148) dX11_layLaw_148 ?_
              refine V_iload (pc := 151) dX11_layLaw_151 0 rfl ?_
              refine V_iload_n (pc := 153) dX11_layLaw_153 4 rfl rfl ?_
              refine V_iadd (pc := 154) dX11_layLaw_154 ?_
              refine V_dup2_11 (pc := 155) dX11_layLaw_155 rfl rfl ?_
              refine Ml_law (pc := 156) dX11_layLaw_156 (by rw [hI47.2.2, nI_add]; exact vp_in_nI (by omega) (by decide)) ?_
              refine V_aload_n (pc := 157) dX11_layLaw_157 6 rfl rfl ?_
              refine Mg_lawWas (pc := 158) dX11_layLaw_158 ?_
              refine V_iload (pc := 161) dX11_layLaw_161 0 rfl ?_
              refine Ml_lawWas (pc := 163) dX11_layLaw_163 (by exact vp_in_nI (by omega) (by decide)) ?_
              refine V_ixor (pc := 164) dX11_layLaw_164 ?_
              refine Ms_law (pc := 165) dX11_layLaw_165 (by rw [hI47.2.2, nI_add]; exact vp_in_nI (by omega) (by decide)) ?_
              refine V_eqS (lwS S (bmU (mBm S n_).2.2.1 (mBm S n_).2.2.2.1 (mBm S n_).2.1 (j + 1)) (mBm S n_).2.2.2.1 (va_cpy (mBm S n_).2.2.1 (mBm S n_).2.2.2.2 0 0 41)) (by
                  refine (lwS16 _ _ _ _ _).trans ?_
                  rw [hI47.2.2, nI_add, nI_clamp (by omega), nI_clamp (by omega)]
                  rfl) ?_
              refine V_iinc (pc := 166) (v := 1) (L2 := [(5, .int 0), (4, .int u), (3, .int (nI n_)), (2, .int x2_), (1, .int x1_), (0, .ref (Z.2.2.2 99))]) dX11_layLaw_166 0 rfl (by decide) (by decide) rfl (fun x6_166 ex6_166 => ?_)
              rw [nI_1] at ex6_166
              subst ex6_166
              refine V_goto (pc := 169) (tgt := 138) dX11_layLaw_169 (by decide) ?_
              refine V_sub (L' := [(6, .int (nI (j + 1))), (5, .int 0), (4, .int u), (3, .int (nI n_)), (2, .int x2_), (1, .int x1_), (0, .ref (Z.2.2.2 99))]) [0, 1, 2, 3, 4, 5, 6] rfl ?_
              refine ih138 ((j + 1)) ?_ ?_
              · show ((j + 1)) ≤ 41 - (mBm S n_).2.1
                exact hj
              · show 41 - (j + 1) < 41 - j
                omega
          · skip
            rw [hI47.2.1, show (2 : Int32) = nI 2 from rfl, pk_mul] at h110
            have h2 : 2 * (mBm S n_).1 ≤ n_ := jngt (by omega) (by omega) h110
            refine V_iconst (v := 1) (pc := 113) dX11_layLaw_113 (by decide) ?_
            refine V_goto (pc := 114) (tgt := 118) dX11_layLaw_114 (by decide) ?_
            refine V_istore (pc := 118) (L2 := [(4, .int u), (3, .int (nI n_)), (2, .int x2_), (1, .int x1_), (0, .ref (Z.2.2.2 99))]) dX11_layLaw_118 (by decide) rfl (fun x5_118 ex5_118 => ?_)
            subst ex5_118
            refine V_aload_n (pc := 120) dX11_layLaw_120 5 rfl rfl ?_
            refine Mg_law (pc := 121) dX11_layLaw_121 ?_
            refine V_iconst (v := 0) (pc := 124) dX11_layLaw_124 (by decide) ?_
            refine V_aload_n (pc := 125) dX11_layLaw_125 5 rfl rfl ?_
            refine Mg_lawKept (pc := 126) dX11_layLaw_126 ?_
            refine V_iconst (v := 0) (pc := 129) dX11_layLaw_129 (by decide) ?_
            refine V_bipush (v := 41) (pc := 130) dX11_layLaw_130 (by decide) ?_
            refine Mcpy_16_18 (pc := 132) dX11_layLaw_132 (by decide) (by decide) (by decide) (by decide) (by decide) (by decide) (Nat.le_of_ble_eq_true rfl) ?_
            refine V_eqS (lwS S (mBm S n_).2.2.1 (mBm S n_).2.2.2.1 (va_cpy (mBm S n_).2.2.1 (mBm S n_).2.2.2.2 0 0 41)) (lwS18 _ _ _ _ _) ?_
            refine V_iconst (v := 0) (pc := 135) dX11_layLaw_135 (by decide) ?_
            refine V_istore (pc := 136) (L2 := [(5, .int 1), (4, .int u), (3, .int (nI n_)), (2, .int x2_), (1, .int x1_), (0, .ref (Z.2.2.2 99))]) dX11_layLaw_136 (by decide) rfl (fun x6_136 ex6_136 => ?_)
            subst ex6_136
            refine V_sub (L' := [(6, .int (nI 0)), (5, .int 1), (4, .int u), (3, .int (nI n_)), (2, .int x2_), (1, .int x1_), (0, .ref (Z.2.2.2 99))]) [0, 1, 2, 3, 4, 5, 6] rfl ?_
            refine Vloop (σ := Nat) (fun x => x ≤ 41 - (mBm S n_).2.1) (fun x => 41 - x) (fun x => V MW Z cX11_layLaw RX11 7 (some .int) 1 0 0 B 0 0 138 [(6, .int (nI x)), (5, .int 1), (4, .int u), (3, .int (nI n_)), (2, .int x2_), (1, .int x1_), (0, .ref (Z.2.2.2 99))] [] (lwS S (bmU (mBm S n_).2.2.1 (mBm S n_).2.2.2.1 (mBm S n_).2.1 x) (mBm S n_).2.2.2.1 (va_cpy (mBm S n_).2.2.1 (mBm S n_).2.2.2.2 0 0 41))) ?_ 0 (by exact Nat.zero_le _)
            rintro j hI138 ih138
            have hI138 : j ≤ 41 - (mBm S n_).2.1 := hI138
            show V MW Z cX11_layLaw RX11 7 (some .int) 1 0 0 B 0 0 138 [(6, .int (nI j)), (5, .int 1), (4, .int u), (3, .int (nI n_)), (2, .int x2_), (1, .int x1_), (0, .ref (Z.2.2.2 99))] [] (lwS S (bmU (mBm S n_).2.2.1 (mBm S n_).2.2.2.1 (mBm S n_).2.1 j) (mBm S n_).2.2.2.1 (va_cpy (mBm S n_).2.2.1 (mBm S n_).2.2.2.2 0 0 41))
            refine V_iload (pc := 138) dX11_layLaw_138 0 rfl ?_
            refine V_iload_n (pc := 140) dX11_layLaw_140 4 rfl rfl ?_
            refine V_iadd (pc := 141) dX11_layLaw_141 ?_
            refine V_bipush (v := 40) (pc := 142) dX11_layLaw_142 (by decide) ?_
            refine V_icmp_gt (pc := 144) (tgt := 172) dX11_layLaw_144 (by decide) (fun h144 => ?_) (fun h144 => ?_)
            · skip
              rw [hI47.2.2, nI_add] at h144
              have hj0 : 40 < j + (mBm S n_).2.1 := jgt (b := 40) (by decide) (by omega) h144
              have ej2 : j = 41 - (mBm S n_).2.1 := by omega
              refine V_iload (pc := 172) dX11_layLaw_172 1 rfl ?_
              refine V_if_eq (pc := 174) (tgt := 203) dX11_layLaw_174 (by decide) (fun h174 => ?_) (fun h174 => ?_)
              · skip
                first | exact absurd h174 (by decide) | exact absurd rfl h174
              · skip
                refine V_iload_n (pc := 177) dX11_layLaw_177 3 rfl rfl ?_
                refine V_iconst (v := 1) (pc := 178) dX11_layLaw_178 (by decide) ?_
                refine V_iadd (pc := 179) dX11_layLaw_179 ?_
                refine V_iload_n (pc := 180) dX11_layLaw_180 5 rfl rfl ?_
                refine V_isub (pc := 181) dX11_layLaw_181 ?_
                refine V_istore_n (pc := 182) (L2 := [(6, .int (nI j)), (5, .int 1), (4, .int u), (3, .int (nI n_)), (2, .int x2_), (0, .ref (Z.2.2.2 99))]) dX11_layLaw_182 rfl (by decide) rfl (fun xl_ exl_ => ?_)
                refine V_aload_n (pc := 183) dX11_layLaw_183 6 rfl rfl ?_
                refine Mg_lawKept (pc := 184) dX11_layLaw_184 ?_
                refine V_iconst (v := 0) (pc := 187) dX11_layLaw_187 (by decide) ?_
                refine V_aload_n (pc := 188) dX11_layLaw_188 6 rfl rfl ?_
                refine Mg_lawWas (pc := 189) dX11_layLaw_189 ?_
                refine V_iconst (v := 0) (pc := 192) dX11_layLaw_192 (by decide) ?_
                refine V_bipush (v := 41) (pc := 193) dX11_layLaw_193 (by decide) ?_
                refine Mcpy_18_17 (pc := 195) dX11_layLaw_195 (by decide) (by decide) (by decide) (by decide) (by decide) (by decide) (Nat.le_of_ble_eq_true rfl) ?_
                refine V_eqS (lwS S (bmU (mBm S n_).2.2.1 (mBm S n_).2.2.2.1 (mBm S n_).2.1 j) (va_cpy (va_cpy (mBm S n_).2.2.1 (mBm S n_).2.2.2.2 0 0 41) (mBm S n_).2.2.2.1 0 0 41) (va_cpy (mBm S n_).2.2.1 (mBm S n_).2.2.2.2 0 0 41)) (lwS17 _ _ _ _ _) ?_
                have e1 := bm_b (S := S) (n := n_) ho h2
                refine V_eqS (lwS S (mBm S (n_ + 1)).2.2.1 (mBm S (n_ + 1)).2.2.2.1 (mBm S (n_ + 1)).2.2.2.2) (by rw [e1, ej2]) ?_
                refine V_iconst (v := 1) (pc := 198) dX11_layLaw_198 (by decide) ?_
                refine V_istore_n (pc := 199) (L2 := [(1, .int xl_), (6, .int (nI j)), (5, .int 1), (4, .int u), (3, .int (nI n_)), (0, .ref (Z.2.2.2 99))]) dX11_layLaw_199 rfl (by decide) rfl (fun x2_199 ex2_199 => ?_)
                subst ex2_199
                refine V_goto (pc := 200) (tgt := 206) dX11_layLaw_200 (by decide) ?_
                refine V_iinc (pc := 206) (v := 1) (L2 := [(2, .int 1), (1, .int xl_), (6, .int (nI j)), (5, .int 1), (4, .int u), (0, .ref (Z.2.2.2 99))]) dX11_layLaw_206 5 rfl (by decide) (by decide) rfl (fun x3_206 ex3_206 => ?_)
                rw [nI_1] at ex3_206
                subst ex3_206
                refine V_goto (pc := 209) (tgt := 47) dX11_layLaw_209 (by decide) ?_
                refine V_sub (L' := [(3, .int (nI (n_ + 1))), (2, .int 1), (1, .int xl_), (0, .ref (Z.2.2.2 99))]) [0, 1, 2, 6] rfl ?_
                refine ih47 (((n_ + 1)), _, _) ?_ ?_
                · show ((n_ + 1)) ≤ (S.1 12).toNatClampNeg ∧ (xl_) = nI (mBm S ((n_ + 1))).1 ∧ (1) = nI (mBm S ((n_ + 1))).2.1
                  refine ⟨hn, ?_, ?_⟩
                  · show _ = nI (mBm S (n_ + 1)).1
                    rw [e1]
                    first | exact hI47.2.1 | (rw [← exl_, hI47.2.1, nI_1, pk_sub (by omega)])
                  · show _ = nI (mBm S (n_ + 1)).2.1
                    rw [e1]
                    first | rfl | (rw [hI47.2.2]; exact nI_1 _)
                · show (S.1 12).toNatClampNeg - (n_ + 1) < (S.1 12).toNatClampNeg - n_
                  omega
            · skip
              rw [hI47.2.2, nI_add] at h144
              have hj0 : j + (mBm S n_).2.1 ≤ 40 := jngt (b := 40) (by decide) (by omega) h144
              have hj : j + 1 ≤ 41 - (mBm S n_).2.1 := by omega
              refine V_aload_n (pc := 147) dX11_layLaw_147 6 rfl rfl ?_
              refine Mg_law (pc := 148) dX11_layLaw_148 ?_
              refine V_iload (pc := 151) dX11_layLaw_151 0 rfl ?_
              refine V_iload_n (pc := 153) dX11_layLaw_153 4 rfl rfl ?_
              refine V_iadd (pc := 154) dX11_layLaw_154 ?_
              refine V_dup2_11 (pc := 155) dX11_layLaw_155 rfl rfl ?_
              refine Ml_law (pc := 156) dX11_layLaw_156 (by rw [hI47.2.2, nI_add]; exact vp_in_nI (by omega) (by decide)) ?_
              refine V_aload_n (pc := 157) dX11_layLaw_157 6 rfl rfl ?_
              refine Mg_lawWas (pc := 158) dX11_layLaw_158 ?_
              refine V_iload (pc := 161) dX11_layLaw_161 0 rfl ?_
              refine Ml_lawWas (pc := 163) dX11_layLaw_163 (by exact vp_in_nI (by omega) (by decide)) ?_
              refine V_ixor (pc := 164) dX11_layLaw_164 ?_
              refine Ms_law (pc := 165) dX11_layLaw_165 (by rw [hI47.2.2, nI_add]; exact vp_in_nI (by omega) (by decide)) ?_
              refine V_eqS (lwS S (bmU (mBm S n_).2.2.1 (mBm S n_).2.2.2.1 (mBm S n_).2.1 (j + 1)) (mBm S n_).2.2.2.1 (va_cpy (mBm S n_).2.2.1 (mBm S n_).2.2.2.2 0 0 41)) (by
                  refine (lwS16 _ _ _ _ _).trans ?_
                  rw [hI47.2.2, nI_add, nI_clamp (by omega), nI_clamp (by omega)]
                  rfl) ?_
              refine V_iinc (pc := 166) (v := 1) (L2 := [(5, .int 1), (4, .int u), (3, .int (nI n_)), (2, .int x2_), (1, .int x1_), (0, .ref (Z.2.2.2 99))]) dX11_layLaw_166 0 rfl (by decide) (by decide) rfl (fun x6_166 ex6_166 => ?_)
              rw [nI_1] at ex6_166
              subst ex6_166
              refine V_goto (pc := 169) (tgt := 138) dX11_layLaw_169 (by decide) ?_
              refine V_sub (L' := [(6, .int (nI (j + 1))), (5, .int 1), (4, .int u), (3, .int (nI n_)), (2, .int x2_), (1, .int x1_), (0, .ref (Z.2.2.2 99))]) [0, 1, 2, 3, 4, 5, 6] rfl ?_
              refine ih138 ((j + 1)) ?_ ?_
              · show ((j + 1)) ≤ 41 - (mBm S n_).2.1
                exact hj
              · show 41 - (j + 1) < 41 - j
                omega
        · skip
          have e1 := bm_a (S := S) (n := n_) (by rw [← ej, ← hI61.2]; exact h97)
          refine V_eqS (lwS S (mBm S (n_ + 1)).2.2.1 (mBm S (n_ + 1)).2.2.2.1 (mBm S (n_ + 1)).2.2.2.2) (by rw [e1]) ?_
          refine V_iinc (pc := 100) (v := 1) (L2 := [(5, .int (nI j)), (4, .int u), (3, .int (nI n_)), (1, .int x1_), (0, .ref (Z.2.2.2 99))]) dX11_layLaw_100 3 rfl (by decide) (by decide) rfl (fun x2_100 ex2_100 => ?_)
          subst ex2_100
          refine V_goto (pc := 103) (tgt := 206) dX11_layLaw_103 (by decide) ?_
          refine V_iinc (pc := 206) (v := 1) (L2 := [(2, .int (x2_ + 1)), (5, .int (nI j)), (4, .int u), (1, .int x1_), (0, .ref (Z.2.2.2 99))]) dX11_layLaw_206 3 rfl (by decide) (by decide) rfl (fun x3_206 ex3_206 => ?_)
          rw [nI_1] at ex3_206
          subst ex3_206
          refine V_goto (pc := 209) (tgt := 47) dX11_layLaw_209 (by decide) ?_
          refine V_sub (L' := [(3, .int (nI (n_ + 1))), (2, .int (x2_ + 1)), (1, .int x1_), (0, .ref (Z.2.2.2 99))]) [0, 1, 4, 5] rfl ?_
          refine ih47 (((n_ + 1)), _, _) ?_ ?_
          · show ((n_ + 1)) ≤ (S.1 12).toNatClampNeg ∧ (x1_) = nI (mBm S ((n_ + 1))).1 ∧ ((x2_ + 1)) = nI (mBm S ((n_ + 1))).2.1
            refine ⟨hn, ?_, ?_⟩
            · show _ = nI (mBm S (n_ + 1)).1
              rw [e1]
              first | exact hI47.2.1 | (rw [← exl_, hI47.2.1, nI_1, pk_sub (by omega)])
            · show _ = nI (mBm S (n_ + 1)).2.1
              rw [e1]
              first | rfl | (rw [hI47.2.2]; exact nI_1 _)
          · show (S.1 12).toNatClampNeg - (n_ + 1) < (S.1 12).toNatClampNeg - n_
            omega
      · skip
        rw [hI47.2.1] at h64
        have hj : j + 1 ≤ (mBm S n_).1 + 1 := Nat.succ_le_succ (jngt (by omega) (by omega) h64)
        refine V_iload (pc := 67) dX11_layLaw_67 1 rfl ?_
        refine V_aload_n (pc := 69) dX11_layLaw_69 5 rfl rfl ?_
        refine Mg_law (pc := 70) dX11_layLaw_70 ?_
        refine V_iload (pc := 73) dX11_layLaw_73 0 rfl ?_
        refine Ml_law (pc := 75) dX11_layLaw_75 (by exact vp_in_nI (by omega) (by decide)) ?_
        refine V_aload_n (pc := 76) dX11_layLaw_76 5 rfl rfl ?_
        refine Mg_row (pc := 77) dX11_layLaw_77 ?_
        refine V_iload_n (pc := 80) dX11_layLaw_80 2 rfl rfl ?_
        refine V_iload (pc := 81) dX11_layLaw_81 0 rfl ?_
        refine V_isub (pc := 83) dX11_layLaw_83 ?_
        refine Ml_row (pc := 84) dX11_layLaw_84 (by rw [pk_sub (by omega)]; exact vp_in_nI (by omega) (by decide)) ?_
        refine V_iand (pc := 85) dX11_layLaw_85 ?_
        refine V_ixor (pc := 86) dX11_layLaw_86 ?_
        refine V_istore (pc := 87) (L2 := [(5, .int (nI j)), (3, .int (nI n_)), (2, .int x2_), (1, .int x1_), (0, .ref (Z.2.2.2 99))]) dX11_layLaw_87 (by decide) rfl (fun x4_87 ex4_87 => ?_)
        refine V_iinc (pc := 89) (v := 1) (L2 := [(4, .int x4_87), (3, .int (nI n_)), (2, .int x2_), (1, .int x1_), (0, .ref (Z.2.2.2 99))]) dX11_layLaw_89 1 rfl (by decide) (by decide) rfl (fun x5_89 ex5_89 => ?_)
        rw [nI_1] at ex5_89
        subst ex5_89
        refine V_goto (pc := 92) (tgt := 61) dX11_layLaw_92 (by decide) ?_
        refine V_sub (L' := [(5, .int (nI (j + 1))), (4, .int x4_87), (3, .int (nI n_)), (2, .int x2_), (1, .int x1_), (0, .ref (Z.2.2.2 99))]) [0, 1, 2, 3, 4, 5] rfl ?_
        refine ih61 (((j + 1)), _) ?_ ?_
        · show ((j + 1)) ≤ (mBm S n_).1 + 1 ∧ (x4_87) = bmO (mBm S n_).2.2.1 (S.2.2 11) n_ ((j + 1))
          refine ⟨hj, ?_⟩
          show x4_87 = _
          rw [← ex4_87, hI61.2]
          rw [pk_sub (by omega), nI_clamp (by omega), nI_clamp (by omega)]
          rfl
        · show (mBm S n_).1 + 1 - (j + 1) < (mBm S n_).1 + 1 - j
          omega
  · skip
    have hj : j + 1 ≤ 41 := Nat.succ_le_succ (jngt (b := 40) (by decide) (by omega) h5)
    refine V_aload_n (pc := 8) dX11_layLaw_8 1 rfl rfl ?_
    refine Mg_law (pc := 9) dX11_layLaw_9 ?_
    refine V_iload_n (pc := 12) dX11_layLaw_12 0 rfl rfl ?_
    refine V_iload_n (pc := 13) dX11_layLaw_13 0 rfl rfl ?_
    refine V_if_ne (pc := 14) (tgt := 21) dX11_layLaw_14 (by decide) (fun h14 => ?_) (fun h14 => ?_)
    · skip
      refine V_iconst (v := 0) (pc := 21) dX11_layLaw_21 (by decide) ?_
      refine Ms_law (pc := 22) dX11_layLaw_22 (by exact vp_in_nI (by omega) (by decide)) ?_
      refine V_eqS (lwS S (lw0 (S.2.2 16) (j + 1)) (lw0 (S.2.2 17) j) (S.2.2 18)) (by
          refine (lwS16 _ _ _ _ _).trans ?_
          rw [nI_clamp (by omega)]
          show _ = lwS S (upd (lw0 (S.2.2 16) j) j (if j = 0 then 1 else 0)) (lw0 (S.2.2 17) j) (S.2.2 18)
          first | (rw [if_pos (by rcases Nat.eq_zero_or_pos j with q | q; exact q; exact absurd h14 (nI_ne0 q (by omega)))]; rfl) | (rw [if_neg (fun q => h14 (by rw [q]; rfl))]; rfl)) ?_
      refine V_aload_n (pc := 23) dX11_layLaw_23 1 rfl rfl ?_
      refine Mg_lawWas (pc := 24) dX11_layLaw_24 ?_
      refine V_iload_n (pc := 27) dX11_layLaw_27 0 rfl rfl ?_
      refine V_aload_n (pc := 28) dX11_layLaw_28 1 rfl rfl ?_
      refine Mg_law (pc := 29) dX11_layLaw_29 ?_
      refine V_iload_n (pc := 32) dX11_layLaw_32 0 rfl rfl ?_
      refine Ml_law (pc := 33) dX11_layLaw_33 (by exact vp_in_nI (by omega) (by decide)) ?_
      refine Ms_lawWas (pc := 34) dX11_layLaw_34 (by exact vp_in_nI (by omega) (by decide)) ?_
      refine V_eqS (lwS S (lw0 (S.2.2 16) (j + 1)) (lw0 (S.2.2 17) (j + 1)) (S.2.2 18)) (by
          refine (lwS17 _ _ _ _ _).trans ?_
          rw [nI_clamp (by omega)]
          show lwS S _ (upd (lw0 (S.2.2 17) j) j (upd (lw0 (S.2.2 16) j) j (if j = 0 then 1 else 0) j)) _ = _
          rw [show upd (lw0 (S.2.2 16) j) j (if j = 0 then 1 else 0) j = (if j = 0 then 1 else 0) from pk_us]
          rfl) ?_
      refine V_iinc (pc := 35) (v := 1) (L2 := [(0, .ref (Z.2.2.2 99))]) dX11_layLaw_35 0 rfl (by decide) (by decide) rfl (fun x1_35 ex1_35 => ?_)
      rw [nI_1] at ex1_35
      subst ex1_35
      refine V_goto (pc := 38) (tgt := 2) dX11_layLaw_38 (by decide) ?_
      refine V_sub (L' := [(1, .int (nI (j + 1))), (0, .ref (Z.2.2.2 99))]) [0, 1] rfl ?_
      refine ih2 ((j + 1)) ?_ ?_
      · show ((j + 1)) ≤ 41
        exact hj
      · show 41 - (j + 1) < 41 - j
        omega
    · skip
      refine V_iconst (v := 1) (pc := 17) dX11_layLaw_17 (by decide) ?_
      refine V_goto (pc := 18) (tgt := 22) dX11_layLaw_18 (by decide) ?_
      refine Ms_law (pc := 22) dX11_layLaw_22 (by exact vp_in_nI (by omega) (by decide)) ?_
      refine V_eqS (lwS S (lw0 (S.2.2 16) (j + 1)) (lw0 (S.2.2 17) j) (S.2.2 18)) (by
          refine (lwS16 _ _ _ _ _).trans ?_
          rw [nI_clamp (by omega)]
          show _ = lwS S (upd (lw0 (S.2.2 16) j) j (if j = 0 then 1 else 0)) (lw0 (S.2.2 17) j) (S.2.2 18)
          first | (rw [if_pos (by rcases Nat.eq_zero_or_pos j with q | q; exact q; exact absurd h14 (nI_ne0 q (by omega)))]; rfl) | (rw [if_neg (fun q => h14 (by rw [q]; rfl))]; rfl)) ?_
      refine V_aload_n (pc := 23) dX11_layLaw_23 1 rfl rfl ?_
      refine Mg_lawWas (pc := 24) dX11_layLaw_24 ?_
      refine V_iload_n (pc := 27) dX11_layLaw_27 0 rfl rfl ?_
      refine V_aload_n (pc := 28) dX11_layLaw_28 1 rfl rfl ?_
      refine Mg_law (pc := 29) dX11_layLaw_29 ?_
      refine V_iload_n (pc := 32) dX11_layLaw_32 0 rfl rfl ?_
      refine Ml_law (pc := 33) dX11_layLaw_33 (by exact vp_in_nI (by omega) (by decide)) ?_
      refine Ms_lawWas (pc := 34) dX11_layLaw_34 (by exact vp_in_nI (by omega) (by decide)) ?_
      refine V_eqS (lwS S (lw0 (S.2.2 16) (j + 1)) (lw0 (S.2.2 17) (j + 1)) (S.2.2 18)) (by
          refine (lwS17 _ _ _ _ _).trans ?_
          rw [nI_clamp (by omega)]
          show lwS S _ (upd (lw0 (S.2.2 17) j) j (upd (lw0 (S.2.2 16) j) j (if j = 0 then 1 else 0) j)) _ = _
          rw [show upd (lw0 (S.2.2 16) j) j (if j = 0 then 1 else 0) j = (if j = 0 then 1 else 0) from pk_us]
          rfl) ?_
      refine V_iinc (pc := 35) (v := 1) (L2 := [(0, .ref (Z.2.2.2 99))]) dX11_layLaw_35 0 rfl (by decide) (by decide) rfl (fun x1_35 ex1_35 => ?_)
      rw [nI_1] at ex1_35
      subst ex1_35
      refine V_goto (pc := 38) (tgt := 2) dX11_layLaw_38 (by decide) ?_
      refine V_sub (L' := [(1, .int (nI (j + 1))), (0, .ref (Z.2.2.2 99))]) [0, 1] rfl ?_
      refine ih2 ((j + 1)) ?_ ?_
      · show ((j + 1)) ≤ 41
        exact hj
      · show 41 - (j + 1) < 41 - j
        omega
