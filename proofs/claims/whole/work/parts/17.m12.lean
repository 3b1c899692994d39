theorem nx_or (a b : Nat) : nI a ||| nI b = nI (a ||| b) := by
  apply Int32.toBitVec_inj.mp
  apply BitVec.eq_of_toNat_eq
  rw [Int32.toBitVec_or, BitVec.toNat_or]
  show (a % 2 ^ 32) ||| (b % 2 ^ 32) = (a ||| b) % 2 ^ 32
  rw [← Nat.or_mod_two_pow]
theorem rlF_le (f : Nat → Int32) (v : Int32) (len : Nat) : ∀ (g x : Nat), x + rlF f v len g x ≤ max x len
  | 0, x => by simp only [rlF]; omega
  | g + 1, x => by
    simp only [rlF]
    split
    · rename_i h
      have := rlF_le f v len g (x + 1)
      omega
    · omega
theorem rlA_le {f : Nat → Int32} {len q : Nat} (h : q < len) : q + rlA f len q ≤ len ∧ 1 ≤ rlA f len q := by
  have := rlF_le f (f q) len (len - (q + 1)) (q + 1)
  unfold rlA
  omega
def raF (f : Nat → Int32) (len q : Nat) : Nat → Nat → Bool
  | 0, _ => false
  | g + 1, k => if k < q then (if f k = f q ∧ rlA f len k = rlA f len q then true else raF f len q g (k + rlA f len k)) else false
def rnC (P : Nat → Bool) (f : Nat → Int32) (len : Nat) : Nat → Nat → Nat
  | 0, _ => 0
  | g + 1, q => if q < len then (if P q then 1 else 0) + rnC P f len g (q + rlA f len q) else 0
def rnP (f : Nat → Int32) (len : Nat) (bit lg : Int32) (q : Nat) : Bool := if bit = -1 then !(raF f len q 41 0) else decide (f q = bit ∧ nI (rlA f len q) = lg)
theorem rlA_lt {f : Nat → Int32} {len q : Nat} (h : q < len) (h2 : len ≤ 40) : rlA f len q < 2 ^ 31 := by have := rlA_le (f := f) h; omega
theorem rnC_le (P : Nat → Bool) (f : Nat → Int32) (len : Nat) : ∀ (g q : Nat), rnC P f len g q ≤ g
  | 0, q => Nat.le_refl _
  | g + 1, q => by
    simp only [rnC]
    split
    · have := rnC_le P f len g (q + rlA f len q)
      split <;> omega
    · omega
set_option maxHeartbeats 4000000 in
set_option maxRecDepth 100000 in
theorem cM_isRunAhead (Z : VZ) (S : MS) (q_ : Nat) (hw : q_ < (S.1 12).toNatClampNeg ∧ (S.1 12).toNatClampNeg ≤ 40) : CtF MW Z yX11_isRunAhead cX11_isRunAhead 3 (some .boolean) 1 0 0 [.ref (Z.2.2.2 99), .int (nI q_)] (S) (some (.int (bI (raF (S.2.2 11) (S.1 12).toNatClampNeg q_ 41 0 = true)))) (S) := by
  refine V_entry (own := RX11) (by decide) rfl (Nat.le_of_ble_eq_true rfl) ?_
  intro B hB
  refine V_sub (L' := [(0, .ref (Z.2.2.2 99)), (1, .int (nI q_))]) [0, 1] rfl ?_
  refine V_iconst (v := 0) (pc := 0) dX11_isRunAhead_0 (by decide) ?_
  refine V_istore_n (pc := 1) (L2 := [(0, .ref (Z.2.2.2 99)), (1, .int (nI q_))]) dX11_isRunAhead_1 rfl (by decide) rfl (fun x2_1 ex2_1 => ?_)
  subst ex2_1
  refine V_sub (L' := [(2, .int (nI 0)), (0, .ref (Z.2.2.2 99)), (1, .int (nI q_))]) [0, 1, 2] rfl ?_
  refine Vloop (σ := Nat × Nat) (fun x => (x.1) ≤ (x.2) ∧ (x.2) ≤ (S.1 12).toNatClampNeg ∧ raF (S.2.2 11) (S.1 12).toNatClampNeg q_ (41 - (x.1)) (x.2) = raF (S.2.2 11) (S.1 12).toNatClampNeg q_ 41 0) (fun x => 41 - (x.1)) (fun x => V MW Z cX11_isRunAhead RX11 3 (some .boolean) 1 0 0 B 0 0 2 [(2, .int (nI (x.2))), (0, .ref (Z.2.2.2 99)), (1, .int (nI q_))] [] (S)) ?_ (0, 0) (by exact ⟨Nat.le_refl _, Nat.zero_le _, rfl⟩)
  rintro ⟨i, k⟩ hI2 ih2
  have hI2 : i ≤ k ∧ k ≤ (S.1 12).toNatClampNeg ∧ raF (S.2.2 11) (S.1 12).toNatClampNeg q_ (41 - i) k = raF (S.2.2 11) (S.1 12).toNatClampNeg q_ 41 0 := hI2
  show V MW Z cX11_isRunAhead RX11 3 (some .boolean) 1 0 0 B 0 0 2 [(2, .int (nI k)), (0, .ref (Z.2.2.2 99)), (1, .int (nI q_))] [] (S)
  refine V_iload_n (pc := 2) dX11_isRunAhead_2 0 rfl rfl ?_
  refine V_iload_n (pc := 3) dX11_isRunAhead_3 2 rfl rfl ?_
  refine V_icmp_ge (pc := 4) (tgt := 48) dX11_isRunAhead_4 (by decide) (fun h4 => ?_) (fun h4 => ?_)
  · skip
    have hk : ¬ k < q_ := fun q => absurd h4 (Int32.not_le.mpr ((nI_ltI (by omega) (by omega)).mpr q))
    refine V_iconst (v := 0) (pc := 48) dX11_isRunAhead_48 (by decide) ?_
    exact V_zret (pc := 49) dX11_isRunAhead_49 (Nat.le_of_ble_eq_true rfl) (Nat.le_of_ble_eq_true rfl) (Or.inl rfl) (hB _ _ ⟨congrArg (fun z => some (Value.int z)) (by refine (bI_f (fun h => ?_)).symm; rw [← hI2.2.2, show 41 - i = 41 - (i + 1) + 1 by omega] at h; simp only [raF] at h; rw [if_neg hk] at h; exact absurd h (by decide)), by rfl⟩)
  · skip
    have hk : k < q_ := (nI_ltI (by omega) (by omega)).mp (Int32.not_le.mp h4)
    refine V_aload_n (pc := 7) dX11_isRunAhead_7 1 rfl rfl ?_
    refine Mg_row (pc := 8) dX11_isRunAhead_8 ?_
    refine V_iload_n (pc := 11) dX11_isRunAhead_11 0 rfl rfl ?_
    refine Ml_row (pc := 12) dX11_isRunAhead_12 (by exact vp_in_nI (by omega) (by decide)) ?_
    refine V_aload_n (pc := 13) dX11_isRunAhead_13 1 rfl rfl ?_
    refine Mg_row (pc := 14) dX11_isRunAhead_14 ?_
    refine V_iload_n (pc := 17) dX11_isRunAhead_17 2 rfl rfl ?_
    refine Ml_row (pc := 18) dX11_isRunAhead_18 (by exact vp_in_nI (by omega) (by decide)) ?_
    refine V_icmp_ne (pc := 19) (tgt := 37) dX11_isRunAhead_19 (by decide) (fun h19 => ?_) (fun h19 => ?_)
    · skip
      rw [nI_clamp (by omega), nI_clamp (by omega)] at h19
      have hne : ¬ ((S.2.2 11) k = (S.2.2 11) q_ ∧ rlA (S.2.2 11) (S.1 12).toNatClampNeg k = rlA (S.2.2 11) (S.1 12).toNatClampNeg q_) := fun h => h19 h.1
      refine V_iload_n (pc := 37) dX11_isRunAhead_37 0 rfl rfl ?_
      refine V_aload_n (pc := 38) dX11_isRunAhead_38 1 rfl rfl ?_
      refine V_iload_n (pc := 39) dX11_isRunAhead_39 0 rfl rfl ?_
      refine McVi (pc := 40) dX11_isRunAhead_40 (cM_runAt Z _ _ (by exact ⟨by omega, hw.2⟩)) kM_239 rfl rfl (Nat.le_of_ble_eq_true rfl) (by decide) (by decide) ?_
      refine V_iadd (pc := 43) dX11_isRunAhead_43 ?_
      refine V_istore_n (pc := 44) (L2 := [(0, .ref (Z.2.2.2 99)), (1, .int (nI q_))]) dX11_isRunAhead_44 rfl (by decide) rfl (fun x2_44 ex2_44 => ?_)
      rw [nI_add] at ex2_44
      subst ex2_44
      refine V_goto (pc := 45) (tgt := 2) dX11_isRunAhead_45 (by decide) ?_
      refine V_sub (L' := [(2, .int (nI (k + rlA (S.2.2 11) (S.1 12).toNatClampNeg k))), (0, .ref (Z.2.2.2 99)), (1, .int (nI q_))]) [0, 1, 2] rfl ?_
      refine ih2 ((i + 1), ((k + rlA (S.2.2 11) (S.1 12).toNatClampNeg k))) ?_ ?_
      · show (i + 1) ≤ ((k + rlA (S.2.2 11) (S.1 12).toNatClampNeg k)) ∧ ((k + rlA (S.2.2 11) (S.1 12).toNatClampNeg k)) ≤ (S.1 12).toNatClampNeg ∧ raF (S.2.2 11) (S.1 12).toNatClampNeg q_ (41 - (i + 1)) ((k + rlA (S.2.2 11) (S.1 12).toNatClampNeg k)) = raF (S.2.2 11) (S.1 12).toNatClampNeg q_ 41 0
        have hr := rlA_le (f := (S.2.2 11)) (len := (S.1 12).toNatClampNeg) (q := k) (by omega)
        refine ⟨by omega, hr.1, ?_⟩
        rw [← hI2.2.2, show 41 - i = 41 - (i + 1) + 1 by omega]
        simp only [raF]
        rw [if_pos hk, if_neg hne]
      · show 41 - (i + 1) < 41 - i
        omega
    · skip
      rw [nI_clamp (by omega), nI_clamp (by omega)] at h19
      refine V_aload_n (pc := 22) dX11_isRunAhead_22 1 rfl rfl ?_
      refine V_iload_n (pc := 23) dX11_isRunAhead_23 0 rfl rfl ?_
      refine McVi (pc := 24) dX11_isRunAhead_24 (cM_runAt Z _ _ (by exact ⟨by omega, hw.2⟩)) kM_239 rfl rfl (Nat.le_of_ble_eq_true rfl) (by decide) (by decide) ?_
      refine V_aload_n (pc := 27) dX11_isRunAhead_27 1 rfl rfl ?_
      refine V_iload_n (pc := 28) dX11_isRunAhead_28 2 rfl rfl ?_
      refine McVi (pc := 29) dX11_isRunAhead_29 (cM_runAt Z _ _ (by exact ⟨by omega, hw.2⟩)) kM_239 rfl rfl (Nat.le_of_ble_eq_true rfl) (by decide) (by decide) ?_
      refine V_icmp_ne (pc := 32) (tgt := 37) dX11_isRunAhead_32 (by decide) (fun h32 => ?_) (fun h32 => ?_)
      · skip
        rw [nI_eq (rlA_lt (by omega) hw.2) (rlA_lt hw.1 hw.2)] at h32
        have hne : ¬ ((S.2.2 11) k = (S.2.2 11) q_ ∧ rlA (S.2.2 11) (S.1 12).toNatClampNeg k = rlA (S.2.2 11) (S.1 12).toNatClampNeg q_) := fun h => h32 h.2
        refine V_iload_n (pc := 37) dX11_isRunAhead_37 0 rfl rfl ?_
        refine V_aload_n (pc := 38) dX11_isRunAhead_38 1 rfl rfl ?_
        refine V_iload_n (pc := 39) dX11_isRunAhead_39 0 rfl rfl ?_
        refine McVi (pc := 40) dX11_isRunAhead_40 (cM_runAt Z _ _ (by exact ⟨by omega, hw.2⟩)) kM_239 rfl rfl (Nat.le_of_ble_eq_true rfl) (by decide) (by decide) ?_
        refine V_iadd (pc := 43) dX11_isRunAhead_43 ?_
        refine V_istore_n (pc := 44) (L2 := [(0, .ref (Z.2.2.2 99)), (1, .int (nI q_))]) dX11_isRunAhead_44 rfl (by decide) rfl (fun x2_44 ex2_44 => ?_)
        rw [nI_add] at ex2_44
        subst ex2_44
        refine V_goto (pc := 45) (tgt := 2) dX11_isRunAhead_45 (by decide) ?_
        refine V_sub (L' := [(2, .int (nI (k + rlA (S.2.2 11) (S.1 12).toNatClampNeg k))), (0, .ref (Z.2.2.2 99)), (1, .int (nI q_))]) [0, 1, 2] rfl ?_
        refine ih2 ((i + 1), ((k + rlA (S.2.2 11) (S.1 12).toNatClampNeg k))) ?_ ?_
        · show (i + 1) ≤ ((k + rlA (S.2.2 11) (S.1 12).toNatClampNeg k)) ∧ ((k + rlA (S.2.2 11) (S.1 12).toNatClampNeg k)) ≤ (S.1 12).toNatClampNeg ∧ raF (S.2.2 11) (S.1 12).toNatClampNeg q_ (41 - (i + 1)) ((k + rlA (S.2.2 11) (S.1 12).toNatClampNeg k)) = raF (S.2.2 11) (S.1 12).toNatClampNeg q_ 41 0
          have hr := rlA_le (f := (S.2.2 11)) (len := (S.1 12).toNatClampNeg) (q := k) (by omega)
          refine ⟨by omega, hr.1, ?_⟩
          rw [← hI2.2.2, show 41 - i = 41 - (i + 1) + 1 by omega]
          simp only [raF]
          rw [if_pos hk, if_neg hne]
        · show 41 - (i + 1) < 41 - i
          omega
      · skip
        rw [nI_eq (rlA_lt (by omega) hw.2) (rlA_lt hw.1 hw.2)] at h32
        have hf : raF (S.2.2 11) (S.1 12).toNatClampNeg q_ 41 0 = true := by
          rw [← hI2.2.2, show 41 - i = 41 - (i + 1) + 1 by omega]
          simp only [raF]
          rw [if_pos hk, if_pos ⟨h19, h32⟩]
        refine V_iconst (v := 1) (pc := 35) dX11_isRunAhead_35 (by decide) ?_
        exact V_zret (pc := 36) dX11_isRunAhead_36 (Nat.le_of_ble_eq_true rfl) (Nat.le_of_ble_eq_true rfl) (Or.inr rfl) (hB _ _ ⟨congrArg (fun z => some (Value.int z)) (by exact (bI_t hf).symm), by rfl⟩)
set_option maxHeartbeats 4000000 in
set_option maxRecDepth 100000 in
theorem cM_runs (Z : VZ) (S : MS) (a_ : Int32) (b_ : Int32) (g_ : Int32) (hs : sOK2 S) : CtF MW Z yX11_runs cX11_runs 7 (some .int) 2 0 0 [.ref (Z.2.2.2 99), .int a_, .int b_, .int g_] (S) (some (.int (if ((0 ≤ a_ ∧ a_ ≤ 3) ∧ (-1 ≤ b_ ∧ b_ ≤ 1)) then (if 0 ≤ S.2.2 32 a_.toNatClampNeg then nI (rnC (rnP (rdI S a_.toNatClampNeg (S.2.2 33 a_.toNatClampNeg).toNatClampNeg) (S.2.2 33 a_.toNatClampNeg).toNatClampNeg b_ g_) (rdI S a_.toNatClampNeg (S.2.2 33 a_.toNatClampNeg).toNatClampNeg) (S.2.2 33 a_.toNatClampNeg).toNatClampNeg 41 0) else -11) else -2))) (if ((0 ≤ a_ ∧ a_ ≤ 3) ∧ (-1 ≤ b_ ∧ b_ ≤ 1)) ∧ 0 ≤ S.2.2 32 a_.toNatClampNeg then (mRd S a_.toNatClampNeg) else S) := by
  refine V_entry (own := RX11) (by decide) rfl (Nat.le_of_ble_eq_true rfl) ?_
  intro B hB
  refine V_sub (L' := [(0, .ref (Z.2.2.2 99)), (1, .int a_), (2, .int b_), (3, .int g_)]) [0, 1, 2, 3] rfl ?_
  refine V_iload_n (pc := 0) dX11_runs_0 1 rfl rfl ?_
  refine McSi (pc := 1) dX11_runs_1 (cM_isSheet Z _ _) kM_150 rfl (Nat.le_of_ble_eq_true rfl) (by decide) (by decide) ?_
  refine V_bif_eq (pc := 4) (tgt := 16) dX11_runs_4 (by decide) (fun h4 => ?_) (fun h4 => ?_)
  · skip
    refine V_bipush (v := (-2)) (pc := 16) dX11_runs_16 (by decide) ?_
    exact V_iret (pc := 18) dX11_runs_18 (Nat.le_of_ble_eq_true rfl) (Nat.le_of_ble_eq_true rfl) (hB _ _ ⟨congrArg (fun z => some (Value.int z)) (by exact (if_neg (fun h => h4 h.1)).symm), by exact (if_neg (fun h => h4 h.1.1)).symm⟩)
  · skip
    refine V_iload_n (pc := 7) dX11_runs_7 2 rfl rfl ?_
    refine V_iconst (v := (-1)) (pc := 8) dX11_runs_8 (by decide) ?_
    refine V_iconst (v := 1) (pc := 9) dX11_runs_9 (by decide) ?_
    refine McSi (pc := 10) dX11_runs_10 (cM_in Z _ _ _ _) kM_70 rfl (Nat.le_of_ble_eq_true rfl) (by decide) (by decide) ?_
    refine V_bif_ne (pc := 13) (tgt := 19) dX11_runs_13 (by decide) (fun h13 => ?_) (fun h13 => ?_)
    · skip
      refine V_aload_n (pc := 19) dX11_runs_19 0 rfl rfl ?_
      refine Mg_sorts (pc := 20) dX11_runs_20 ?_
      refine V_iload_n (pc := 23) dX11_runs_23 1 rfl rfl ?_
      refine Ml_sorts (pc := 24) dX11_runs_24 (by exact inSh h4) ?_
      refine V_if_ge (pc := 25) (tgt := 31) dX11_runs_25 (by decide) (fun h25 => ?_) (fun h25 => ?_)
      · skip
        refine V_aload_n (pc := 31) dX11_runs_31 0 rfl rfl ?_
        refine V_iload_n (pc := 32) dX11_runs_32 1 rfl rfl ?_
        refine McVv (pc := 33) dX11_runs_33 (cM_reads Z _ _ (by exact inSh h4) (by exact sz_le hs (inSh h4))) kM_165 rfl rfl (Nat.le_of_ble_eq_true rfl) (by decide) (by decide) ?_
        have hz := sz_le hs (inSh h4)
        refine V_iconst (v := 0) (pc := 36) dX11_runs_36 (by decide) ?_
        refine V_istore (pc := 37) (L2 := [(0, .ref (Z.2.2.2 99)), (1, .int a_), (2, .int b_), (3, .int g_)]) dX11_runs_37 (by decide) rfl (fun x4_37 ex4_37 => ?_)
        subst ex4_37
        refine V_iconst (v := 0) (pc := 39) dX11_runs_39 (by decide) ?_
        refine V_istore (pc := 40) (L2 := [(4, .int 0), (0, .ref (Z.2.2.2 99)), (1, .int a_), (2, .int b_), (3, .int g_)]) dX11_runs_40 (by decide) rfl (fun x5_40 ex5_40 => ?_)
        subst ex5_40
        refine V_sub (L' := [(5, .int (nI 0)), (4, .int (nI 0)), (0, .ref (Z.2.2.2 99)), (1, .int a_), (2, .int b_), (3, .int g_)]) [0, 1, 2, 3, 4, 5] rfl ?_
        refine Vloop (σ := Nat × Nat × Nat) (fun x => (x.1) ≤ (x.2.1) ∧ (x.2.1) ≤ (S.2.2 33 a_.toNatClampNeg).toNatClampNeg ∧ (x.2.2) ≤ (x.1) ∧ (x.2.2) + rnC (rnP (rdI S a_.toNatClampNeg (S.2.2 33 a_.toNatClampNeg).toNatClampNeg) (S.2.2 33 a_.toNatClampNeg).toNatClampNeg b_ g_) (rdI S a_.toNatClampNeg (S.2.2 33 a_.toNatClampNeg).toNatClampNeg) (S.2.2 33 a_.toNatClampNeg).toNatClampNeg (41 - (x.1)) (x.2.1) = rnC (rnP (rdI S a_.toNatClampNeg (S.2.2 33 a_.toNatClampNeg).toNatClampNeg) (S.2.2 33 a_.toNatClampNeg).toNatClampNeg b_ g_) (rdI S a_.toNatClampNeg (S.2.2 33 a_.toNatClampNeg).toNatClampNeg) (S.2.2 33 a_.toNatClampNeg).toNatClampNeg 41 0) (fun x => 41 - (x.1)) (fun x => V MW Z cX11_runs RX11 7 (some .int) 2 0 0 B 0 0 42 [(5, .int (nI (x.2.1))), (4, .int (nI (x.2.2))), (0, .ref (Z.2.2.2 99)), (1, .int a_), (2, .int b_), (3, .int g_)] [] ((mRd S a_.toNatClampNeg))) ?_ (0, 0, 0) (by exact ⟨Nat.le_refl _, Nat.zero_le _, Nat.le_refl _, Nat.zero_add _⟩)
        rintro ⟨i, q, c⟩ hI42 ih42
        have hI42 : i ≤ q ∧ q ≤ (S.2.2 33 a_.toNatClampNeg).toNatClampNeg ∧ c ≤ i ∧ c + rnC (rnP (rdI S a_.toNatClampNeg (S.2.2 33 a_.toNatClampNeg).toNatClampNeg) (S.2.2 33 a_.toNatClampNeg).toNatClampNeg b_ g_) (rdI S a_.toNatClampNeg (S.2.2 33 a_.toNatClampNeg).toNatClampNeg) (S.2.2 33 a_.toNatClampNeg).toNatClampNeg (41 - i) q = rnC (rnP (rdI S a_.toNatClampNeg (S.2.2 33 a_.toNatClampNeg).toNatClampNeg) (S.2.2 33 a_.toNatClampNeg).toNatClampNeg b_ g_) (rdI S a_.toNatClampNeg (S.2.2 33 a_.toNatClampNeg).toNatClampNeg) (S.2.2 33 a_.toNatClampNeg).toNatClampNeg 41 0 := hI42
        show V MW Z cX11_runs RX11 7 (some .int) 2 0 0 B 0 0 42 [(5, .int (nI q)), (4, .int (nI c)), (0, .ref (Z.2.2.2 99)), (1, .int a_), (2, .int b_), (3, .int g_)] [] ((mRd S a_.toNatClampNeg))
        refine V_iload (pc := 42) dX11_runs_42 0 rfl ?_
        refine V_aload_n (pc := 44) dX11_runs_44 2 rfl rfl ?_
        refine Mg_length (pc := 45) (v := (S.2.2 33 a_.toNatClampNeg)) rfl dX11_runs_45 ?_
        refine V_icmp_ge (pc := 48) (tgt := 123) dX11_runs_48 (by decide) (fun h48 => ?_) (fun h48 => ?_)
        · skip
          have hq : ¬ q < (S.2.2 33 a_.toNatClampNeg).toNatClampNeg := Nat.not_lt.mpr (jge h48 (by omega))
          refine V_iload (pc := 123) dX11_runs_123 1 rfl ?_
          exact V_iret (pc := 125) dX11_runs_125 (Nat.le_of_ble_eq_true rfl) (Nat.le_of_ble_eq_true rfl) (hB _ _ ⟨congrArg (fun z => some (Value.int z)) (by rw [if_pos ⟨h4, h13⟩, if_pos h25, ← hI42.2.2.2, show 41 - i = 41 - (i + 1) + 1 by omega]; simp only [rnC]; rw [if_neg hq, Nat.add_zero]), by rw [if_pos ⟨⟨h4, h13⟩, h25⟩]⟩)
        · skip
          have hq : q < (S.2.2 33 a_.toNatClampNeg).toNatClampNeg := jlt h48 (by omega)
          refine V_iload_n (pc := 51) dX11_runs_51 4 rfl rfl ?_
          refine V_iconst (v := (-1)) (pc := 52) dX11_runs_52 (by decide) ?_
          refine V_icmp_ne (pc := 53) (tgt := 73) dX11_runs_53 (by decide) (fun h53 => ?_) (fun h53 => ?_)
          · skip
            refine V_aload_n (pc := 73) dX11_runs_73 2 rfl rfl ?_
            refine Mg_row (pc := 74) dX11_runs_74 ?_
            refine V_iload (pc := 77) dX11_runs_77 0 rfl ?_
            refine Ml_row (pc := 79) dX11_runs_79 (by exact vp_in_nI (by omega) (by decide)) ?_
            refine V_iload_n (pc := 80) dX11_runs_80 4 rfl rfl ?_
            refine V_icmp_ne (pc := 81) (tgt := 98) dX11_runs_81 (by decide) (fun h81 => ?_) (fun h81 => ?_)
            · skip
              rw [nI_clamp (by omega)] at h81
              have h81 : ¬ (rdI S a_.toNatClampNeg (S.2.2 33 a_.toNatClampNeg).toNatClampNeg) q = b_ := h81
              have hp : ¬ rnP (rdI S a_.toNatClampNeg (S.2.2 33 a_.toNatClampNeg).toNatClampNeg) (S.2.2 33 a_.toNatClampNeg).toNatClampNeg b_ g_ q = true := by simp only [rnP]; rw [if_neg h53]; simp [h81]
              refine V_iconst (v := 0) (pc := 98) dX11_runs_98 (by decide) ?_
              refine V_istore (pc := 99) (L2 := [(5, .int (nI q)), (4, .int (nI c)), (0, .ref (Z.2.2.2 99)), (1, .int a_), (2, .int b_), (3, .int g_)]) dX11_runs_99 (by decide) rfl (fun x6_99 ex6_99 => ?_)
              subst ex6_99
              refine V_iload (pc := 101) dX11_runs_101 0 rfl ?_
              refine V_if_eq (pc := 103) (tgt := 109) dX11_runs_103 (by decide) (fun h103 => ?_) (fun h103 => ?_)
              · skip
                refine V_iload (pc := 109) dX11_runs_109 1 rfl ?_
                refine V_aload_n (pc := 111) dX11_runs_111 3 rfl rfl ?_
                refine V_iload (pc := 112) dX11_runs_112 1 rfl ?_
                refine McVi (pc := 114) dX11_runs_114 (cM_runAt Z _ _ (by exact ⟨hq, hz⟩)) kM_239 rfl rfl (Nat.le_of_ble_eq_true rfl) (by decide) (by decide) ?_
                refine V_iadd (pc := 117) dX11_runs_117 ?_
                refine V_istore (pc := 118) (L2 := [(6, .int 0), (4, .int (nI c)), (0, .ref (Z.2.2.2 99)), (1, .int a_), (2, .int b_), (3, .int g_)]) dX11_runs_118 (by decide) rfl (fun x5_118 ex5_118 => ?_)
                rw [nI_add] at ex5_118
                subst ex5_118
                refine V_goto (pc := 120) (tgt := 42) dX11_runs_120 (by decide) ?_
                refine V_sub (L' := [(5, .int (nI (q + rlA (rdI S a_.toNatClampNeg (S.2.2 33 a_.toNatClampNeg).toNatClampNeg) (S.2.2 33 a_.toNatClampNeg).toNatClampNeg q))), (4, .int (nI c)), (0, .ref (Z.2.2.2 99)), (1, .int a_), (2, .int b_), (3, .int g_)]) [0, 2, 3, 4, 5, 6] rfl ?_
                refine ih42 ((i + 1), ((q + rlA (rdI S a_.toNatClampNeg (S.2.2 33 a_.toNatClampNeg).toNatClampNeg) (S.2.2 33 a_.toNatClampNeg).toNatClampNeg q)), (c)) ?_ ?_
                · show (i + 1) ≤ ((q + rlA (rdI S a_.toNatClampNeg (S.2.2 33 a_.toNatClampNeg).toNatClampNeg) (S.2.2 33 a_.toNatClampNeg).toNatClampNeg q)) ∧ ((q + rlA (rdI S a_.toNatClampNeg (S.2.2 33 a_.toNatClampNeg).toNatClampNeg) (S.2.2 33 a_.toNatClampNeg).toNatClampNeg q)) ≤ (S.2.2 33 a_.toNatClampNeg).toNatClampNeg ∧ (c) ≤ (i + 1) ∧ (c) + rnC (rnP (rdI S a_.toNatClampNeg (S.2.2 33 a_.toNatClampNeg).toNatClampNeg) (S.2.2 33 a_.toNatClampNeg).toNatClampNeg b_ g_) (rdI S a_.toNatClampNeg (S.2.2 33 a_.toNatClampNeg).toNatClampNeg) (S.2.2 33 a_.toNatClampNeg).toNatClampNeg (41 - (i + 1)) ((q + rlA (rdI S a_.toNatClampNeg (S.2.2 33 a_.toNatClampNeg).toNatClampNeg) (S.2.2 33 a_.toNatClampNeg).toNatClampNeg q)) = rnC (rnP (rdI S a_.toNatClampNeg (S.2.2 33 a_.toNatClampNeg).toNatClampNeg) (S.2.2 33 a_.toNatClampNeg).toNatClampNeg b_ g_) (rdI S a_.toNatClampNeg (S.2.2 33 a_.toNatClampNeg).toNatClampNeg) (S.2.2 33 a_.toNatClampNeg).toNatClampNeg 41 0
                  have hr := rlA_le (f := (rdI S a_.toNatClampNeg (S.2.2 33 a_.toNatClampNeg).toNatClampNeg)) (len := (S.2.2 33 a_.toNatClampNeg).toNatClampNeg) (q := q) hq
                  refine ⟨by omega, hr.1, by omega, ?_⟩
                  rw [← hI42.2.2.2, show 41 - i = 41 - (i + 1) + 1 by omega]
                  simp only [rnC]
                  rw [if_pos hq]
                  first | (rw [if_pos hp]; omega) | (rw [if_neg hp]; omega)
                · show 41 - (i + 1) < 41 - i
                  omega
              · skip
                first | exact absurd h103 (by decide) | exact absurd rfl h103
            · skip
              rw [nI_clamp (by omega)] at h81
              have h81 : (rdI S a_.toNatClampNeg (S.2.2 33 a_.toNatClampNeg).toNatClampNeg) q = b_ := h81
              refine V_aload_n (pc := 84) dX11_runs_84 2 rfl rfl ?_
              refine V_iload (pc := 85) dX11_runs_85 0 rfl ?_
              refine McVi (pc := 87) dX11_runs_87 (cM_runAt Z _ _ (by exact ⟨hq, hz⟩)) kM_239 rfl rfl (Nat.le_of_ble_eq_true rfl) (by decide) (by decide) ?_
              refine V_iload_n (pc := 90) dX11_runs_90 5 rfl rfl ?_
              refine V_icmp_ne (pc := 91) (tgt := 98) dX11_runs_91 (by decide) (fun h91 => ?_) (fun h91 => ?_)
              · skip
                have h91 : ¬ nI (rlA (rdI S a_.toNatClampNeg (S.2.2 33 a_.toNatClampNeg).toNatClampNeg) (S.2.2 33 a_.toNatClampNeg).toNatClampNeg q) = g_ := h91
                have hp : ¬ rnP (rdI S a_.toNatClampNeg (S.2.2 33 a_.toNatClampNeg).toNatClampNeg) (S.2.2 33 a_.toNatClampNeg).toNatClampNeg b_ g_ q = true := by simp only [rnP]; rw [if_neg h53]; simp [h91]
                refine V_iconst (v := 0) (pc := 98) dX11_runs_98 (by decide) ?_
                refine V_istore (pc := 99) (L2 := [(5, .int (nI q)), (4, .int (nI c)), (0, .ref (Z.2.2.2 99)), (1, .int a_), (2, .int b_), (3, .int g_)]) dX11_runs_99 (by decide) rfl (fun x6_99 ex6_99 => ?_)
                subst ex6_99
                refine V_iload (pc := 101) dX11_runs_101 0 rfl ?_
                refine V_if_eq (pc := 103) (tgt := 109) dX11_runs_103 (by decide) (fun h103 => ?_) (fun h103 => ?_)
                · skip
                  refine V_iload (pc := 109) dX11_runs_109 1 rfl ?_
                  refine V_aload_n (pc := 111) dX11_runs_111 3 rfl rfl ?_
                  refine V_iload (pc := 112) dX11_runs_112 1 rfl ?_
                  refine McVi (pc := 114) dX11_runs_114 (cM_runAt Z _ _ (by exact ⟨hq, hz⟩)) kM_239 rfl rfl (Nat.le_of_ble_eq_true rfl) (by decide) (by decide) ?_
                  refine V_iadd (pc := 117) dX11_runs_117 ?_
                  refine V_istore (pc := 118) (L2 := [(6, .int 0), (4, .int (nI c)), (0, .ref (Z.2.2.2 99)), (1, .int a_), (2, .int b_), (3, .int g_)]) dX11_runs_118 (by decide) rfl (fun x5_118 ex5_118 => ?_)
                  rw [nI_add] at ex5_118
                  subst ex5_118
                  refine V_goto (pc := 120) (tgt := 42) dX11_runs_120 (by decide) ?_
                  refine V_sub (L' := [(5, .int (nI (q + rlA (rdI S a_.toNatClampNeg (S.2.2 33 a_.toNatClampNeg).toNatClampNeg) (S.2.2 33 a_.toNatClampNeg).toNatClampNeg q))), (4, .int (nI c)), (0, .ref (Z.2.2.2 99)), (1, .int a_), (2, .int b_), (3, .int g_)]) [0, 2, 3, 4, 5, 6] rfl ?_
                  refine ih42 ((i + 1), ((q + rlA (rdI S a_.toNatClampNeg (S.2.2 33 a_.toNatClampNeg).toNatClampNeg) (S.2.2 33 a_.toNatClampNeg).toNatClampNeg q)), (c)) ?_ ?_
                  · show (i + 1) ≤ ((q + rlA (rdI S a_.toNatClampNeg (S.2.2 33 a_.toNatClampNeg).toNatClampNeg) (S.2.2 33 a_.toNatClampNeg).toNatClampNeg q)) ∧ ((q + rlA (rdI S a_.toNatClampNeg (S.2.2 33 a_.toNatClampNeg).toNatClampNeg) (S.2.2 33 a_.toNatClampNeg).toNatClampNeg q)) ≤ (S.2.2 33 a_.toNatClampNeg).toNatClampNeg ∧ (c) ≤ (i + 1) ∧ (c) + rnC (rnP (rdI S a_.toNatClampNeg (S.2.2 33 a_.toNatClampNeg).toNatClampNeg) (S.2.2 33 a_.toNatClampNeg).toNatClampNeg b_ g_) (rdI S a_.toNatClampNeg (S.2.2 33 a_.toNatClampNeg).toNatClampNeg) (S.2.2 33 a_.toNatClampNeg).toNatClampNeg (41 - (i + 1)) ((q + rlA (rdI S a_.toNatClampNeg (S.2.2 33 a_.toNatClampNeg).toNatClampNeg) (S.2.2 33 a_.toNatClampNeg).toNatClampNeg q)) = rnC (rnP (rdI S a_.toNatClampNeg (S.2.2 33 a_.toNatClampNeg).toNatClampNeg) (S.2.2 33 a_.toNatClampNeg).toNatClampNeg b_ g_) (rdI S a_.toNatClampNeg (S.2.2 33 a_.toNatClampNeg).toNatClampNeg) (S.2.2 33 a_.toNatClampNeg).toNatClampNeg 41 0
                    have hr := rlA_le (f := (rdI S a_.toNatClampNeg (S.2.2 33 a_.toNatClampNeg).toNatClampNeg)) (len := (S.2.2 33 a_.toNatClampNeg).toNatClampNeg) (q := q) hq
                    refine ⟨by omega, hr.1, by omega, ?_⟩
                    rw [← hI42.2.2.2, show 41 - i = 41 - (i + 1) + 1 by omega]
                    simp only [rnC]
                    rw [if_pos hq]
                    first | (rw [if_pos hp]; omega) | (rw [if_neg hp]; omega)
                  · show 41 - (i + 1) < 41 - i
                    omega
                · skip
                  first | exact absurd h103 (by decide) | exact absurd rfl h103
              · skip
                have h91 : nI (rlA (rdI S a_.toNatClampNeg (S.2.2 33 a_.toNatClampNeg).toNatClampNeg) (S.2.2 33 a_.toNatClampNeg).toNatClampNeg q) = g_ := h91
                have hp : rnP (rdI S a_.toNatClampNeg (S.2.2 33 a_.toNatClampNeg).toNatClampNeg) (S.2.2 33 a_.toNatClampNeg).toNatClampNeg b_ g_ q = true := by simp only [rnP]; rw [if_neg h53]; simp [h81, h91]
                refine V_iconst (v := 1) (pc := 94) dX11_runs_94 (by decide) ?_
                refine V_goto (pc := 95) (tgt := 99) dX11_runs_95 (by decide) ?_
                refine V_istore (pc := 99) (L2 := [(5, .int (nI q)), (4, .int (nI c)), (0, .ref (Z.2.2.2 99)), (1, .int a_), (2, .int b_), (3, .int g_)]) dX11_runs_99 (by decide) rfl (fun x6_99 ex6_99 => ?_)
                subst ex6_99
                refine V_iload (pc := 101) dX11_runs_101 0 rfl ?_
                refine V_if_eq (pc := 103) (tgt := 109) dX11_runs_103 (by decide) (fun h103 => ?_) (fun h103 => ?_)
                · skip
                  first | exact absurd h103 (by decide) | exact absurd rfl h103
                · skip
                  refine V_iinc (pc := 106) (v := 1) (L2 := [(6, .int 1), (5, .int (nI q)), (0, .ref (Z.2.2.2 99)), (1, .int a_), (2, .int b_), (3, .int g_)]) dX11_runs_106 2 rfl (by decide) (by decide) rfl (fun x4_106 ex4_106 => ?_)
                  rw [nI_1] at ex4_106
                  subst ex4_106
                  refine V_iload (pc := 109) dX11_runs_109 2 rfl ?_
                  refine V_aload_n (pc := 111) dX11_runs_111 3 rfl rfl ?_
                  refine V_iload (pc := 112) dX11_runs_112 2 rfl ?_
                  refine McVi (pc := 114) dX11_runs_114 (cM_runAt Z _ _ (by exact ⟨hq, hz⟩)) kM_239 rfl rfl (Nat.le_of_ble_eq_true rfl) (by decide) (by decide) ?_
                  refine V_iadd (pc := 117) dX11_runs_117 ?_
                  refine V_istore (pc := 118) (L2 := [(4, .int (nI (c + 1))), (6, .int 1), (0, .ref (Z.2.2.2 99)), (1, .int a_), (2, .int b_), (3, .int g_)]) dX11_runs_118 (by decide) rfl (fun x5_118 ex5_118 => ?_)
                  rw [nI_add] at ex5_118
                  subst ex5_118
                  refine V_goto (pc := 120) (tgt := 42) dX11_runs_120 (by decide) ?_
                  refine V_sub (L' := [(5, .int (nI (q + rlA (rdI S a_.toNatClampNeg (S.2.2 33 a_.toNatClampNeg).toNatClampNeg) (S.2.2 33 a_.toNatClampNeg).toNatClampNeg q))), (4, .int (nI (c + 1))), (0, .ref (Z.2.2.2 99)), (1, .int a_), (2, .int b_), (3, .int g_)]) [0, 1, 3, 4, 5, 6] rfl ?_
                  refine ih42 ((i + 1), ((q + rlA (rdI S a_.toNatClampNeg (S.2.2 33 a_.toNatClampNeg).toNatClampNeg) (S.2.2 33 a_.toNatClampNeg).toNatClampNeg q)), ((c + 1))) ?_ ?_
                  · show (i + 1) ≤ ((q + rlA (rdI S a_.toNatClampNeg (S.2.2 33 a_.toNatClampNeg).toNatClampNeg) (S.2.2 33 a_.toNatClampNeg).toNatClampNeg q)) ∧ ((q + rlA (rdI S a_.toNatClampNeg (S.2.2 33 a_.toNatClampNeg).toNatClampNeg) (S.2.2 33 a_.toNatClampNeg).toNatClampNeg q)) ≤ (S.2.2 33 a_.toNatClampNeg).toNatClampNeg ∧ ((c + 1)) ≤ (i + 1) ∧ ((c + 1)) + rnC (rnP (rdI S a_.toNatClampNeg (S.2.2 33 a_.toNatClampNeg).toNatClampNeg) (S.2.2 33 a_.toNatClampNeg).toNatClampNeg b_ g_) (rdI S a_.toNatClampNeg (S.2.2 33 a_.toNatClampNeg).toNatClampNeg) (S.2.2 33 a_.toNatClampNeg).toNatClampNeg (41 - (i + 1)) ((q + rlA (rdI S a_.toNatClampNeg (S.2.2 33 a_.toNatClampNeg).toNatClampNeg) (S.2.2 33 a_.toNatClampNeg).toNatClampNeg q)) = rnC (rnP (rdI S a_.toNatClampNeg (S.2.2 33 a_.toNatClampNeg).toNatClampNeg) (S.2.2 33 a_.toNatClampNeg).toNatClampNeg b_ g_) (rdI S a_.toNatClampNeg (S.2.2 33 a_.toNatClampNeg).toNatClampNeg) (S.2.2 33 a_.toNatClampNeg).toNatClampNeg 41 0
                    have hr := rlA_le (f := (rdI S a_.toNatClampNeg (S.2.2 33 a_.toNatClampNeg).toNatClampNeg)) (len := (S.2.2 33 a_.toNatClampNeg).toNatClampNeg) (q := q) hq
                    refine ⟨by omega, hr.1, by omega, ?_⟩
                    rw [← hI42.2.2.2, show 41 - i = 41 - (i + 1) + 1 by omega]
                    simp only [rnC]
                    rw [if_pos hq]
                    first | (rw [if_pos hp]; omega) | (rw [if_neg hp]; omega)
                  · show 41 - (i + 1) < 41 - i
                    omega
          · skip
            refine V_aload_n (pc := 56) dX11_runs_56 2 rfl rfl ?_
            refine V_iload (pc := 57) dX11_runs_57 0 rfl ?_
            refine McVi (pc := 59) dX11_runs_59 (cM_isRunAhead Z _ _ (by exact ⟨hq, hz⟩)) kM_242 rfl rfl (Nat.le_of_ble_eq_true rfl) (by decide) (by decide) ?_
            refine V_bif_ne (pc := 62) (tgt := 69) dX11_runs_62 (by decide) (fun h62 => ?_) (fun h62 => ?_)
            · skip
              have h62 : raF (rdI S a_.toNatClampNeg (S.2.2 33 a_.toNatClampNeg).toNatClampNeg) (S.2.2 33 a_.toNatClampNeg).toNatClampNeg q 41 0 = true := h62
              have hp : ¬ rnP (rdI S a_.toNatClampNeg (S.2.2 33 a_.toNatClampNeg).toNatClampNeg) (S.2.2 33 a_.toNatClampNeg).toNatClampNeg b_ g_ q = true := by simp only [rnP]; rw [if_pos h53]; simpa using h62
              refine V_iconst (v := 0) (pc := 69) dX11_runs_69 (by decide) ?_
              refine V_goto (pc := 70) (tgt := 99) dX11_runs_70 (by decide) ?_
              refine V_istore (pc := 99) (L2 := [(5, .int (nI q)), (4, .int (nI c)), (0, .ref (Z.2.2.2 99)), (1, .int a_), (2, .int b_), (3, .int g_)]) dX11_runs_99 (by decide) rfl (fun x6_99 ex6_99 => ?_)
              subst ex6_99
              refine V_iload (pc := 101) dX11_runs_101 0 rfl ?_
              refine V_if_eq (pc := 103) (tgt := 109) dX11_runs_103 (by decide) (fun h103 => ?_) (fun h103 => ?_)
              · skip
                refine V_iload (pc := 109) dX11_runs_109 1 rfl ?_
                refine V_aload_n (pc := 111) dX11_runs_111 3 rfl rfl ?_
                refine V_iload (pc := 112) dX11_runs_112 1 rfl ?_
                refine McVi (pc := 114) dX11_runs_114 (cM_runAt Z _ _ (by exact ⟨hq, hz⟩)) kM_239 rfl rfl (Nat.le_of_ble_eq_true rfl) (by decide) (by decide) ?_
                refine V_iadd (pc := 117) dX11_runs_117 ?_
                refine V_istore (pc := 118) (L2 := [(6, .int 0), (4, .int (nI c)), (0, .ref (Z.2.2.2 99)), (1, .int a_), (2, .int b_), (3, .int g_)]) dX11_runs_118 (by decide) rfl (fun x5_118 ex5_118 => ?_)
                rw [nI_add] at ex5_118
                subst ex5_118
                refine V_goto (pc := 120) (tgt := 42) dX11_runs_120 (by decide) ?_
                refine V_sub (L' := [(5, .int (nI (q + rlA (rdI S a_.toNatClampNeg (S.2.2 33 a_.toNatClampNeg).toNatClampNeg) (S.2.2 33 a_.toNatClampNeg).toNatClampNeg q))), (4, .int (nI c)), (0, .ref (Z.2.2.2 99)), (1, .int a_), (2, .int b_), (3, .int g_)]) [0, 2, 3, 4, 5, 6] rfl ?_
                refine ih42 ((i + 1), ((q + rlA (rdI S a_.toNatClampNeg (S.2.2 33 a_.toNatClampNeg).toNatClampNeg) (S.2.2 33 a_.toNatClampNeg).toNatClampNeg q)), (c)) ?_ ?_
                · show (i + 1) ≤ ((q + rlA (rdI S a_.toNatClampNeg (S.2.2 33 a_.toNatClampNeg).toNatClampNeg) (S.2.2 33 a_.toNatClampNeg).toNatClampNeg q)) ∧ ((q + rlA (rdI S a_.toNatClampNeg (S.2.2 33 a_.toNatClampNeg).toNatClampNeg) (S.2.2 33 a_.toNatClampNeg).toNatClampNeg q)) ≤ (S.2.2 33 a_.toNatClampNeg).toNatClampNeg ∧ (c) ≤ (i + 1) ∧ (c) + rnC (rnP (rdI S a_.toNatClampNeg (S.2.2 33 a_.toNatClampNeg).toNatClampNeg) (S.2.2 33 a_.toNatClampNeg).toNatClampNeg b_ g_) (rdI S a_.toNatClampNeg (S.2.2 33 a_.toNatClampNeg).toNatClampNeg) (S.2.2 33 a_.toNatClampNeg).toNatClampNeg (41 - (i + 1)) ((q + rlA (rdI S a_.toNatClampNeg (S.2.2 33 a_.toNatClampNeg).toNatClampNeg) (S.2.2 33 a_.toNatClampNeg).toNatClampNeg q)) = rnC (rnP (rdI S a_.toNatClampNeg (S.2.2 33 a_.toNatClampNeg).toNatClampNeg) (S.2.2 33 a_.toNatClampNeg).toNatClampNeg b_ g_) (rdI S a_.toNatClampNeg (S.2.2 33 a_.toNatClampNeg).toNatClampNeg) (S.2.2 33 a_.toNatClampNeg).toNatClampNeg 41 0
                  have hr := rlA_le (f := (rdI S a_.toNatClampNeg (S.2.2 33 a_.toNatClampNeg).toNatClampNeg)) (len := (S.2.2 33 a_.toNatClampNeg).toNatClampNeg) (q := q) hq
                  refine ⟨by omega, hr.1, by omega, ?_⟩
                  rw [← hI42.2.2.2, show 41 - i = 41 - (i + 1) + 1 by omega]
                  simp only [rnC]
                  rw [if_pos hq]
                  first | (rw [if_pos hp]; omega) | (rw [if_neg hp]; omega)
                · show 41 - (i + 1) < 41 - i
                  omega
              · skip
                first | exact absurd h103 (by decide) | exact absurd rfl h103
            · skip
              have h62 : ¬ raF (rdI S a_.toNatClampNeg (S.2.2 33 a_.toNatClampNeg).toNatClampNeg) (S.2.2 33 a_.toNatClampNeg).toNatClampNeg q 41 0 = true := h62
              have hp : rnP (rdI S a_.toNatClampNeg (S.2.2 33 a_.toNatClampNeg).toNatClampNeg) (S.2.2 33 a_.toNatClampNeg).toNatClampNeg b_ g_ q = true := by simp only [rnP]; rw [if_pos h53]; simpa using h62
              refine V_iconst (v := 1) (pc := 65) dX11_runs_65 (by decide) ?_
              refine V_goto (pc := 66) (tgt := 99) dX11_runs_66 (by decide) ?_
              refine V_istore (pc := 99) (L2 := [(5, .int (nI q)), (4, .int (nI c)), (0, .ref (Z.2.2.2 99)), (1, .int a_), (2, .int b_), (3, .int g_)]) dX11_runs_99 (by decide) rfl (fun x6_99 ex6_99 => ?_)
              subst ex6_99
              refine V_iload (pc := 101) dX11_runs_101 0 rfl ?_
              refine V_if_eq (pc := 103) (tgt := 109) dX11_runs_103 (by decide) (fun h103 => ?_) (fun h103 => ?_)
              · skip
                first | exact absurd h103 (by decide) | exact absurd rfl h103
              · skip
                refine V_iinc (pc := 106) (v := 1) (L2 := [(6, .int 1), (5, .int (nI q)), (0, .ref (Z.2.2.2 99)), (1, .int a_), (2, .int b_), (3, .int g_)]) dX11_runs_106 2 rfl (by decide) (by decide) rfl (fun x4_106 ex4_106 => ?_)
                rw [nI_1] at ex4_106
                subst ex4_106
                refine V_iload (pc := 109) dX11_runs_109 2 rfl ?_
                refine V_aload_n (pc := 111) dX11_runs_111 3 rfl rfl ?_
                refine V_iload (pc := 112) dX11_runs_112 2 rfl ?_
                refine McVi (pc := 114) dX11_runs_114 (cM_runAt Z _ _ (by exact ⟨hq, hz⟩)) kM_239 rfl rfl (Nat.le_of_ble_eq_true rfl) (by decide) (by decide) ?_
                refine V_iadd (pc := 117) dX11_runs_117 ?_
                refine V_istore (pc := 118) (L2 := [(4, .int (nI (c + 1))), (6, .int 1), (0, .ref (Z.2.2.2 99)), (1, .int a_), (2, .int b_), (3, .int g_)]) dX11_runs_118 (by decide) rfl (fun x5_118 ex5_118 => ?_)
                rw [nI_add] at ex5_118
                subst ex5_118
                refine V_goto (pc := 120) (tgt := 42) dX11_runs_120 (by decide) ?_
                refine V_sub (L' := [(5, .int (nI (q + rlA (rdI S a_.toNatClampNeg (S.2.2 33 a_.toNatClampNeg).toNatClampNeg) (S.2.2 33 a_.toNatClampNeg).toNatClampNeg q))), (4, .int (nI (c + 1))), (0, .ref (Z.2.2.2 99)), (1, .int a_), (2, .int b_), (3, .int g_)]) [0, 1, 3, 4, 5, 6] rfl ?_
                refine ih42 ((i + 1), ((q + rlA (rdI S a_.toNatClampNeg (S.2.2 33 a_.toNatClampNeg).toNatClampNeg) (S.2.2 33 a_.toNatClampNeg).toNatClampNeg q)), ((c + 1))) ?_ ?_
                · show (i + 1) ≤ ((q + rlA (rdI S a_.toNatClampNeg (S.2.2 33 a_.toNatClampNeg).toNatClampNeg) (S.2.2 33 a_.toNatClampNeg).toNatClampNeg q)) ∧ ((q + rlA (rdI S a_.toNatClampNeg (S.2.2 33 a_.toNatClampNeg).toNatClampNeg) (S.2.2 33 a_.toNatClampNeg).toNatClampNeg q)) ≤ (S.2.2 33 a_.toNatClampNeg).toNatClampNeg ∧ ((c + 1)) ≤ (i + 1) ∧ ((c + 1)) + rnC (rnP (rdI S a_.toNatClampNeg (S.2.2 33 a_.toNatClampNeg).toNatClampNeg) (S.2.2 33 a_.toNatClampNeg).toNatClampNeg b_ g_) (rdI S a_.toNatClampNeg (S.2.2 33 a_.toNatClampNeg).toNatClampNeg) (S.2.2 33 a_.toNatClampNeg).toNatClampNeg (41 - (i + 1)) ((q + rlA (rdI S a_.toNatClampNeg (S.2.2 33 a_.toNatClampNeg).toNatClampNeg) (S.2.2 33 a_.toNatClampNeg).toNatClampNeg q)) = rnC (rnP (rdI S a_.toNatClampNeg (S.2.2 33 a_.toNatClampNeg).toNatClampNeg) (S.2.2 33 a_.toNatClampNeg).toNatClampNeg b_ g_) (rdI S a_.toNatClampNeg (S.2.2 33 a_.toNatClampNeg).toNatClampNeg) (S.2.2 33 a_.toNatClampNeg).toNatClampNeg 41 0
                  have hr := rlA_le (f := (rdI S a_.toNatClampNeg (S.2.2 33 a_.toNatClampNeg).toNatClampNeg)) (len := (S.2.2 33 a_.toNatClampNeg).toNatClampNeg) (q := q) hq
                  refine ⟨by omega, hr.1, by omega, ?_⟩
                  rw [← hI42.2.2.2, show 41 - i = 41 - (i + 1) + 1 by omega]
                  simp only [rnC]
                  rw [if_pos hq]
                  first | (rw [if_pos hp]; omega) | (rw [if_neg hp]; omega)
                · show 41 - (i + 1) < 41 - i
                  omega
      · skip
        refine V_bipush (v := (-11)) (pc := 28) dX11_runs_28 (by decide) ?_
        exact V_iret (pc := 30) dX11_runs_30 (Nat.le_of_ble_eq_true rfl) (Nat.le_of_ble_eq_true rfl) (hB _ _ ⟨congrArg (fun z => some (Value.int z)) (by rw [if_pos ⟨h4, h13⟩, if_neg h25]), by exact (if_neg (fun h => h25 h.2)).symm⟩)
    · skip
      refine V_bipush (v := (-2)) (pc := 16) dX11_runs_16 (by decide) ?_
      exact V_iret (pc := 18) dX11_runs_18 (Nat.le_of_ble_eq_true rfl) (Nat.le_of_ble_eq_true rfl) (hB _ _ ⟨congrArg (fun z => some (Value.int z)) (by exact (if_neg (fun h => h13 h.2)).symm), by exact (if_neg (fun h => h13 h.1.2)).symm⟩)
