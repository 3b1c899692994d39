def tmP (S : MS) (i : Nat) : Int32 := rst (S.2.2 2 i) (S.2.2 3 i) (S.2.2 4 i) - S.2.2 5 i <<< (S.2.2 2 i &&& 31)
def tmOK (S : MS) (i : Nat) : Prop := (tmP S i).toInt.natAbs < 1073741824 ∧ ∃ b : Nat, lnk (S.2.2 2 i) (S.2.2 3 i) = nI b ∧ 0 < b ∧ b < 1000000
theorem absI {x : Int32} (h : x.toInt.natAbs < 1073741824) : (if 0 ≤ x then x else 0 - x) = nI x.toInt.natAbs := by
  apply Int32.toInt_inj.mp
  rw [nI_toInt (by omega)]
  have e0 : (0 : Int32).toInt = 0 := rfl
  split
  · rename_i h0
    have h1 := Int32.le_iff_toInt_le.mp h0
    omega
  · rename_i h0
    have h1 := mt Int32.le_iff_toInt_le.mpr h0
    rw [Int32.toInt_sub, e0, Int.bmod_eq_of_le (by omega) (by omega)]
    omega
def tmR (p : Int32) (b : Nat) (w : Int32) : Int64 := ((if w = 0 then p else nI b) / nI (Nat.gcd b p.toInt.natAbs)).toInt64
set_option maxHeartbeats 4000000 in
set_option maxRecDepth 100000 in
theorem cM_told (Z : VZ) (S : MS) (a_ : Int32) (w_ : Int32) (hm : mOK S) (hok : (0 ≤ a_ ∧ a_ ≤ S.1 0 - 1) → tmOK S a_.toNatClampNeg) : CtF MW Z yX11_told cX11_told 6 (some .long) 61 0 0 [.ref (Z.2.2.2 99), .int a_, .int w_] (S) (some (.long (if ((0 ≤ a_ ∧ a_ ≤ S.1 0 - 1) ∧ (0 ≤ w_ ∧ w_ ≤ 1) ∧ S.2.2 1 a_.toNatClampNeg = 0) then tmR (tmP S a_.toNatClampNeg) (lnk (S.2.2 2 a_.toNatClampNeg) (S.2.2 3 a_.toNatClampNeg)).toNatClampNeg w_ else -9223372036854775808))) (S) := by
  refine V_entry (own := RX11) (by decide) rfl (Nat.le_of_ble_eq_true rfl) ?_
  intro B hB
  refine V_sub (L' := [(0, .ref (Z.2.2.2 99)), (1, .int a_), (2, .int w_)]) [0, 1, 2] rfl ?_
  refine V_aload_n (pc := 0) dX11_told_0 0 rfl rfl ?_
  refine V_iload_n (pc := 1) dX11_told_1 1 rfl rfl ?_
  refine McVi (pc := 2) dX11_told_2 (cM_isMachine Z _ _) kM_86 rfl rfl (Nat.le_of_ble_eq_true rfl) (by decide) (by decide) ?_
  refine V_bif_eq (pc := 5) (tgt := 26) dX11_told_5 (by decide) (fun h5 => ?_) (fun h5 => ?_)
  · skip
    refine V_ldc2 (pc := 26) dX11_told_26 tw_1083 ?_
    exact V_lret (pc := 29) dX11_told_29 (Nat.le_of_ble_eq_true rfl) (Nat.le_of_ble_eq_true rfl) (hB _ _ ⟨congrArg (fun z => some (Value.long z)) (by exact (if_neg (fun h => h5 h.1)).symm), by rfl⟩)
  · skip
    refine V_iload_n (pc := 8) dX11_told_8 2 rfl rfl ?_
    refine V_iconst (v := 0) (pc := 9) dX11_told_9 (by decide) ?_
    refine V_iconst (v := 1) (pc := 10) dX11_told_10 (by decide) ?_
    refine McSi (pc := 11) dX11_told_11 (cM_in Z _ _ _ _) kM_70 rfl (Nat.le_of_ble_eq_true rfl) (by decide) (by decide) ?_
    refine V_bif_eq (pc := 14) (tgt := 26) dX11_told_14 (by decide) (fun h14 => ?_) (fun h14 => ?_)
    · skip
      refine V_ldc2 (pc := 26) dX11_told_26 tw_1083 ?_
      exact V_lret (pc := 29) dX11_told_29 (Nat.le_of_ble_eq_true rfl) (Nat.le_of_ble_eq_true rfl) (hB _ _ ⟨congrArg (fun z => some (Value.long z)) (by exact (if_neg (fun h => h14 h.2.1)).symm), by rfl⟩)
    · skip
      refine V_aload_n (pc := 17) dX11_told_17 0 rfl rfl ?_
      refine Mg_kinds (pc := 18) dX11_told_18 ?_
      refine V_iload_n (pc := 21) dX11_told_21 1 rfl rfl ?_
      refine Ml_kinds (pc := 22) dX11_told_22 (by exact inMach hm h5) ?_
      refine V_if_eq (pc := 23) (tgt := 30) dX11_told_23 (by decide) (fun h23 => ?_) (fun h23 => ?_)
      · skip
        obtain ⟨k1, b_, k2, k3, k4⟩ := hok h5
        refine V_aload_n (pc := 30) dX11_told_30 0 rfl rfl ?_
        refine Mg_cells (pc := 31) dX11_told_31 ?_
        refine V_iload_n (pc := 34) dX11_told_34 1 rfl rfl ?_
        refine Ml_cells (pc := 35) dX11_told_35 (by exact inMach hm h5) ?_
        refine V_aload_n (pc := 36) dX11_told_36 0 rfl rfl ?_
        refine Mg_taps (pc := 37) dX11_told_37 ?_
        refine V_iload_n (pc := 40) dX11_told_40 1 rfl rfl ?_
        refine Ml_taps (pc := 41) dX11_told_41 (by exact inMach hm h5) ?_
        refine V_aload_n (pc := 42) dX11_told_42 0 rfl rfl ?_
        refine Mg_states (pc := 43) dX11_told_43 ?_
        refine V_iload_n (pc := 46) dX11_told_46 1 rfl rfl ?_
        refine Ml_states (pc := 47) dX11_told_47 (by exact inMach hm h5) ?_
        refine McSi (pc := 48) dX11_told_48 (cM_restOf Z _ _ _ _) kM_210 rfl (Nat.le_of_ble_eq_true rfl) (by decide) (by decide) ?_
        refine V_aload_n (pc := 51) dX11_told_51 0 rfl rfl ?_
        refine Mg_carries (pc := 52) dX11_told_52 ?_
        refine V_iload_n (pc := 55) dX11_told_55 1 rfl rfl ?_
        refine Ml_carries (pc := 56) dX11_told_56 (by exact inMach hm h5) ?_
        refine V_aload_n (pc := 57) dX11_told_57 0 rfl rfl ?_
        refine Mg_cells (pc := 58) dX11_told_58 ?_
        refine V_iload_n (pc := 61) dX11_told_61 1 rfl rfl ?_
        refine Ml_cells (pc := 62) dX11_told_62 (by exact inMach hm h5) ?_
        refine V_ishl (pc := 63) dX11_told_63 ?_
        refine V_isub (pc := 64) dX11_told_64 ?_
        refine V_istore_n (pc := 65) (L2 := [(0, .ref (Z.2.2.2 99)), (1, .int a_), (2, .int w_)]) dX11_told_65 rfl (by decide) rfl (fun xp_ exp_ => ?_)
        have epP : xp_ = tmP S a_.toNatClampNeg := exp_.symm
        clear exp_
        subst epP
        refine V_aload_n (pc := 66) dX11_told_66 1 rfl rfl ?_
        refine V_iload_n (pc := 67) dX11_told_67 2 rfl rfl ?_
        refine McVi (pc := 68) dX11_told_68 (cM_links Z _ _ (by exact inMach hm h5)) kM_103 rfl rfl (Nat.le_of_ble_eq_true rfl) (by decide) (by decide) ?_
        refine V_eqi (nI b_) k2 ?_
        refine V_istore (pc := 71) (L2 := [(3, .int (tmP S a_.toNatClampNeg)), (0, .ref (Z.2.2.2 99)), (1, .int a_), (2, .int w_)]) dX11_told_71 (by decide) rfl (fun x4_71 ex4_71 => ?_)
        subst ex4_71
        refine V_iload (pc := 73) dX11_told_73 0 rfl ?_
        refine V_iload_n (pc := 75) dX11_told_75 1 rfl rfl ?_
        refine V_mabsi (pc := 76) dX11_told_76 tw_1132 tw_1133 tw_14 tw_1134 (by decide) (Nat.le_of_ble_eq_true rfl) (Nat.le_refl _) (Nat.le_refl _) ?_
        refine V_eqi (nI (tmP S a_.toNatClampNeg).toInt.natAbs) (absI k1) ?_
        refine McSi (pc := 79) dX11_told_79 (cM_common Z _ _ _ (by omega) (by exact k1)) kM_207 rfl (Nat.le_of_ble_eq_true rfl) (by decide) (by decide) ?_
        have hg : 0 < Nat.gcd b_ (tmP S a_.toNatClampNeg).toInt.natAbs := Nat.gcd_pos_of_pos_left _ k3
        have hg2 : Nat.gcd b_ (tmP S a_.toNatClampNeg).toInt.natAbs ≤ b_ := Nat.gcd_le_left _ k3
        refine V_istore (pc := 82) (L2 := [(4, .int (nI b_)), (3, .int (tmP S a_.toNatClampNeg)), (0, .ref (Z.2.2.2 99)), (1, .int a_), (2, .int w_)]) dX11_told_82 (by decide) rfl (fun x5_82 ex5_82 => ?_)
        subst ex5_82
        refine V_iload_n (pc := 84) dX11_told_84 5 rfl rfl ?_
        refine V_if_ne (pc := 85) (tgt := 96) dX11_told_85 (by decide) (fun h85 => ?_) (fun h85 => ?_)
        · skip
          refine V_iload (pc := 96) dX11_told_96 1 rfl ?_
          refine V_iload (pc := 98) dX11_told_98 0 rfl ?_
          refine V_idiv (pc := 100) dX11_told_100 (by exact nI_ne0 hg (by omega)) ?_
          refine V_i2l (pc := 101) dX11_told_101 rfl ?_
          exact V_lret (pc := 102) dX11_told_102 (Nat.le_of_ble_eq_true rfl) (Nat.le_of_ble_eq_true rfl) (hB _ _ ⟨congrArg (fun z => some (Value.long z)) (by rw [if_pos ⟨h5, h14, h23⟩, k2, nI_clamp (by omega)]; unfold tmR; first | (rw [if_pos h85]; done) | (rw [if_neg h85]; done)), by rfl⟩)
        · skip
          refine V_iload_n (pc := 88) dX11_told_88 2 rfl rfl ?_
          refine V_iload (pc := 89) dX11_told_89 0 rfl ?_
          refine V_idiv (pc := 91) dX11_told_91 (by exact nI_ne0 hg (by omega)) ?_
          refine V_i2l (pc := 92) dX11_told_92 rfl ?_
          refine V_goto (pc := 93) (tgt := 102) dX11_told_93 (by decide) ?_
          exact V_lret (pc := 102) dX11_told_102 (Nat.le_of_ble_eq_true rfl) (Nat.le_of_ble_eq_true rfl) (hB _ _ ⟨congrArg (fun z => some (Value.long z)) (by rw [if_pos ⟨h5, h14, h23⟩, k2, nI_clamp (by omega)]; unfold tmR; first | (rw [if_pos h85]; done) | (rw [if_neg h85]; done)), by rfl⟩)
      · skip
        refine V_ldc2 (pc := 26) dX11_told_26 tw_1083 ?_
        exact V_lret (pc := 29) dX11_told_29 (Nat.le_of_ble_eq_true rfl) (Nat.le_of_ble_eq_true rfl) (hB _ _ ⟨congrArg (fun z => some (Value.long z)) (by exact (if_neg (fun h => h23 h.2.2)).symm), by rfl⟩)
def frM (A B : Int) (w : Int32) : Int64 := if w = 0 then iL A else if w = 1 then iL B else if w = 2 then iL (szQ A B) else (nI (dgl (szQ A B).toNat)).toInt64
set_option maxHeartbeats 4000000 in
set_option maxRecDepth 100000 in
theorem cM_fraction (Z : VZ) (S : MS) (a_ : Int32) (w_ : Int32) (hs : sOK2 S) : Ct MW Z yX11_fraction cX11_fraction 3 (some .long) 3 0 0 [.ref (Z.2.2.2 99), .int a_, .int w_] (S) (fun v S' => ((¬ (((0 ≤ a_ ∧ a_ ≤ 3) ∧ ¬ S.2.2 32 a_.toNatClampNeg < 0) ∧ (0 ≤ w_ ∧ w_ ≤ 3) ∧ S.2.2 33 a_.toNatClampNeg ≤ 24) ∧ v = some (.long (-9223372036854775808))) ∨ ((((0 ≤ a_ ∧ a_ ≤ 3) ∧ ¬ S.2.2 32 a_.toNatClampNeg < 0) ∧ (0 ≤ w_ ∧ w_ ≤ 3) ∧ S.2.2 33 a_.toNatClampNeg ≤ 24) ∧ ∃ A B, leaX (rwM S a_.toNatClampNeg (S.2.2 33 a_.toNatClampNeg).toNatClampNeg).toInt (S.2.2 33 a_.toNatClampNeg).toNatClampNeg A B ∧ smQ A ∧ smQ B ∧ v = some (.long (frM A B w_)))) ∧ mCor S S') := by
  refine V_entry (own := RX11) (by decide) rfl (Nat.le_of_ble_eq_true rfl) ?_
  intro B hB
  refine V_sub (L' := [(0, .ref (Z.2.2.2 99)), (1, .int a_), (2, .int w_)]) [0, 1, 2] rfl ?_
  refine V_aload_n (pc := 0) dX11_fraction_0 0 rfl rfl ?_
  refine V_iload_n (pc := 1) dX11_fraction_1 1 rfl rfl ?_
  refine McVi (pc := 2) dX11_fraction_2 (cM_isThere Z _ _) kM_160 rfl rfl (Nat.le_of_ble_eq_true rfl) (by decide) (by decide) ?_
  refine V_bif_eq (pc := 5) (tgt := 28) dX11_fraction_5 (by decide) (fun h5 => ?_) (fun h5 => ?_)
  · skip
    refine V_ldc2 (pc := 28) dX11_fraction_28 tw_1083 ?_
    exact V_lret (pc := 31) dX11_fraction_31 (Nat.le_of_ble_eq_true rfl) (Nat.le_of_ble_eq_true rfl) (hB _ _ (by exact ⟨Or.inl ⟨fun h => h5 h.1, rfl⟩, mCor_rfl S⟩))
  · skip
    refine V_iload_n (pc := 8) dX11_fraction_8 2 rfl rfl ?_
    refine V_iconst (v := 0) (pc := 9) dX11_fraction_9 (by decide) ?_
    refine V_iconst (v := 3) (pc := 10) dX11_fraction_10 (by decide) ?_
    refine McSi (pc := 11) dX11_fraction_11 (cM_in Z _ _ _ _) kM_70 rfl (Nat.le_of_ble_eq_true rfl) (by decide) (by decide) ?_
    refine V_bif_eq (pc := 14) (tgt := 28) dX11_fraction_14 (by decide) (fun h14 => ?_) (fun h14 => ?_)
    · skip
      refine V_ldc2 (pc := 28) dX11_fraction_28 tw_1083 ?_
      exact V_lret (pc := 31) dX11_fraction_31 (Nat.le_of_ble_eq_true rfl) (Nat.le_of_ble_eq_true rfl) (hB _ _ (by exact ⟨Or.inl ⟨fun h => h14 h.2.1, rfl⟩, mCor_rfl S⟩))
    · skip
      refine V_aload_n (pc := 17) dX11_fraction_17 0 rfl rfl ?_
      refine Mg_sizes (pc := 18) dX11_fraction_18 ?_
      refine V_iload_n (pc := 21) dX11_fraction_21 1 rfl rfl ?_
      refine Ml_sizes (pc := 22) dX11_fraction_22 (by exact inSh h5.1) ?_
      refine V_bipush (v := 24) (pc := 23) dX11_fraction_23 (by decide) ?_
      refine V_icmp_le (pc := 25) (tgt := 32) dX11_fraction_25 (by decide) (fun h25 => ?_) (fun h25 => ?_)
      · skip
        refine V_aload_n (pc := 32) dX11_fraction_32 0 rfl rfl ?_
        refine V_iload_n (pc := 33) dX11_fraction_33 1 rfl rfl ?_
        refine McVv (pc := 34) dX11_fraction_34 (cM_reads Z _ _ (by exact inSh h5.1) (by exact sz_le hs (inSh h5.1))) kM_165 rfl rfl (Nat.le_of_ble_eq_true rfl) (by decide) (by decide) ?_
        obtain ⟨l_, hl_, el_⟩ := hs _ (in_cl (inSh h5.1) (by decide)).2
        have ec_ : (S.2.2 33 a_.toNatClampNeg).toNatClampNeg = l_ := by rw [el_, nI_clamp (by omega)]
        have l24 : l_ ≤ 24 := by
          rw [el_] at h25
          exact (nI_leI (b := 24) (by omega) (by decide)).mp h25
        have hbb := bt_bd (fun i => S.2.2 34 (40 * a_.toNatClampNeg + i)) hl_
        have enb : nbI ((mRd S a_.toNatClampNeg).2.2 11) l_ = rwM S a_.toNatClampNeg l_ := by
          show nbI (rdI S a_.toNatClampNeg (S.2.2 33 a_.toNatClampNeg).toNatClampNeg) l_ = _
          rw [ec_]
          exact nbI_bt S _ _
        refine V_aload_n (pc := 37) dX11_fraction_37 0 rfl rfl ?_
        refine V_callV (q0 := 0) (ci := 11) (C := RX11) (T := TX11) (N := 35) (pc := 38) dX11_fraction_38 (cM_layLeast Z _ l_ (by exact el_) (by exact l24) (by rw [enb]; exact hbb)) kM_200 rfl rfl rfl rfl (Nat.le_of_ble_eq_true rfl) (by decide) (by decide) (Nat.le_refl _) (Nat.le_refl _) (fun v38 S38 hp38 => ?_)
        obtain ⟨rfl, A_, B_, rfl, hlea, hsA, hsB⟩ := hp38
        rw [enb] at hlea
        refine V_iload_n (pc := 41) dX11_fraction_41 2 rfl rfl ?_
        refine V_if_ne (pc := 42) (tgt := 52) dX11_fraction_42 (by decide) (fun h42 => ?_) (fun h42 => ?_)
        · skip
          refine V_iload_n (pc := 52) dX11_fraction_52 2 rfl rfl ?_
          refine V_iconst (v := 1) (pc := 53) dX11_fraction_53 (by decide) ?_
          refine V_icmp_ne (pc := 54) (tgt := 64) dX11_fraction_54 (by decide) (fun h54 => ?_) (fun h54 => ?_)
          · skip
            refine V_iload_n (pc := 64) dX11_fraction_64 2 rfl rfl ?_
            refine V_iconst (v := 2) (pc := 65) dX11_fraction_65 (by decide) ?_
            refine V_icmp_ne (pc := 66) (tgt := 84) dX11_fraction_66 (by decide) (fun h66 => ?_) (fun h66 => ?_)
            · skip
              refine V_aload_n (pc := 84) dX11_fraction_84 0 rfl rfl ?_
              refine V_aload_n (pc := 85) dX11_fraction_85 0 rfl rfl ?_
              refine Mg_above (pc := 86) (v := (iL A_)) rfl dX11_fraction_86 ?_
              refine V_aload_n (pc := 89) dX11_fraction_89 0 rfl rfl ?_
              refine Mg_below (pc := 90) (v := (iL B_)) rfl dX11_fraction_90 ?_
              refine McVl (pc := 93) dX11_fraction_93 (cM_sizeOf Z _ _ _) kM_197 rfl rfl (Nat.le_of_ble_eq_true rfl) (by decide) (by decide) ?_
              refine V_eql (iL (szQ A_ B_)) (szO_i hsA hsB) ?_
              have zsm := sz_bd hsA hsB
              refine McSi (pc := 96) dX11_fraction_96 (cM_digitsOf Z _ _) kM_203 rfl (Nat.le_of_ble_eq_true rfl) (by decide) (by decide) ?_
              refine V_eqi (nI (dgl (szQ A_ B_).toNat)) (by rw [iL_t (by omega)]) ?_
              refine V_i2l (pc := 99) dX11_fraction_99 rfl ?_
              exact V_lret (pc := 100) dX11_fraction_100 (Nat.le_of_ble_eq_true rfl) (Nat.le_of_ble_eq_true rfl) (hB _ _ (by rw [ec_]; exact ⟨Or.inr ⟨⟨h5, h14, h25⟩, A_, B_, hlea, hsA, hsB, by simp only [frM, *, ↓reduceIte] <;> rfl⟩, mCor_L (mCor_rd S _) _ _⟩))
            · skip
              refine V_aload_n (pc := 69) dX11_fraction_69 0 rfl rfl ?_
              refine V_aload_n (pc := 70) dX11_fraction_70 0 rfl rfl ?_
              refine Mg_above (pc := 71) (v := (iL A_)) rfl dX11_fraction_71 ?_
              refine V_aload_n (pc := 74) dX11_fraction_74 0 rfl rfl ?_
              refine Mg_below (pc := 75) (v := (iL B_)) rfl dX11_fraction_75 ?_
              refine McVl (pc := 78) dX11_fraction_78 (cM_sizeOf Z _ _ _) kM_197 rfl rfl (Nat.le_of_ble_eq_true rfl) (by decide) (by decide) ?_
              refine V_eql (iL (szQ A_ B_)) (szO_i hsA hsB) ?_
              refine V_goto (pc := 81) (tgt := 100) dX11_fraction_81 (by decide) ?_
              exact V_lret (pc := 100) dX11_fraction_100 (Nat.le_of_ble_eq_true rfl) (Nat.le_of_ble_eq_true rfl) (hB _ _ (by rw [ec_]; exact ⟨Or.inr ⟨⟨h5, h14, h25⟩, A_, B_, hlea, hsA, hsB, by simp only [frM, *, ↓reduceIte] <;> rfl⟩, mCor_L (mCor_rd S _) _ _⟩))
          · skip
            refine V_aload_n (pc := 57) dX11_fraction_57 0 rfl rfl ?_
            refine Mg_below (pc := 58) (v := (iL B_)) rfl dX11_fraction_58 ?_
            refine V_goto (pc := 61) (tgt := 100) dX11_fraction_61 (by decide) ?_
            exact V_lret (pc := 100) dX11_fraction_100 (Nat.le_of_ble_eq_true rfl) (Nat.le_of_ble_eq_true rfl) (hB _ _ (by rw [ec_]; exact ⟨Or.inr ⟨⟨h5, h14, h25⟩, A_, B_, hlea, hsA, hsB, by simp only [frM, *, ↓reduceIte] <;> rfl⟩, mCor_L (mCor_rd S _) _ _⟩))
        · skip
          refine V_aload_n (pc := 45) dX11_fraction_45 0 rfl rfl ?_
          refine Mg_above (pc := 46) (v := (iL A_)) rfl dX11_fraction_46 ?_
          refine V_goto (pc := 49) (tgt := 100) dX11_fraction_49 (by decide) ?_
          exact V_lret (pc := 100) dX11_fraction_100 (Nat.le_of_ble_eq_true rfl) (Nat.le_of_ble_eq_true rfl) (hB _ _ (by rw [ec_]; exact ⟨Or.inr ⟨⟨h5, h14, h25⟩, A_, B_, hlea, hsA, hsB, by simp only [frM, *, ↓reduceIte] <;> rfl⟩, mCor_L (mCor_rd S _) _ _⟩))
      · skip
        refine V_ldc2 (pc := 28) dX11_fraction_28 tw_1083 ?_
        exact V_lret (pc := 31) dX11_fraction_31 (Nat.le_of_ble_eq_true rfl) (Nat.le_of_ble_eq_true rfl) (hB _ _ (by exact ⟨Or.inl ⟨fun h => h25 h.2.2, rfl⟩, mCor_rfl S⟩))
set_option maxHeartbeats 4000000 in
set_option maxRecDepth 100000 in
theorem cM_compare (Z : VZ) (S : MS) (a_ : Int32) (hs : sOK2 S) : Ct MW Z yX11_compare cX11_compare 2 (some .int) 3 0 0 [.ref (Z.2.2.2 99), .int a_] (S) (fun v S' => ((((¬ (0 ≤ a_ ∧ a_ ≤ 3)) ∨ (0 ≤ S.2.2 32 a_.toNatClampNeg ∧ ¬ S.2.2 33 a_.toNatClampNeg ≤ 24)) ∧ v = some (.int (-1000))) ∨ ((0 ≤ a_ ∧ a_ ≤ 3) ∧ ¬ 0 ≤ S.2.2 32 a_.toNatClampNeg ∧ v = some (.int (-1011))) ∨ ((0 ≤ a_ ∧ a_ ≤ 3) ∧ 0 ≤ S.2.2 32 a_.toNatClampNeg ∧ S.2.2 33 a_.toNatClampNeg ≤ 24 ∧ ∃ A B, leaX (rwM S a_.toNatClampNeg (S.2.2 33 a_.toNatClampNeg).toNatClampNeg).toInt (S.2.2 33 a_.toNatClampNeg).toNatClampNeg A B ∧ smQ A ∧ smQ B ∧ v = some (.int (nI (dgl (szQ A B).toNat) - nI (mBm (mRd S a_.toNatClampNeg) (S.2.2 33 a_.toNatClampNeg).toNatClampNeg).1)))) ∧ mCor S S') := by
  refine V_entry (own := RX11) (by decide) rfl (Nat.le_of_ble_eq_true rfl) ?_
  intro B hB
  refine V_sub (L' := [(0, .ref (Z.2.2.2 99)), (1, .int a_)]) [0, 1] rfl ?_
  refine V_iload_n (pc := 0) dX11_compare_0 1 rfl rfl ?_
  refine McSi (pc := 1) dX11_compare_1 (cM_isSheet Z _ _) kM_150 rfl (Nat.le_of_ble_eq_true rfl) (by decide) (by decide) ?_
  refine V_bif_ne (pc := 4) (tgt := 11) dX11_compare_4 (by decide) (fun h4 => ?_) (fun h4 => ?_)
  · skip
    refine V_aload_n (pc := 11) dX11_compare_11 0 rfl rfl ?_
    refine Mg_sorts (pc := 12) dX11_compare_12 ?_
    refine V_iload_n (pc := 15) dX11_compare_15 1 rfl rfl ?_
    refine Ml_sorts (pc := 16) dX11_compare_16 (by exact inSh h4) ?_
    refine V_if_ge (pc := 17) (tgt := 24) dX11_compare_17 (by decide) (fun h17 => ?_) (fun h17 => ?_)
    · skip
      refine V_aload_n (pc := 24) dX11_compare_24 0 rfl rfl ?_
      refine Mg_sizes (pc := 25) dX11_compare_25 ?_
      refine V_iload_n (pc := 28) dX11_compare_28 1 rfl rfl ?_
      refine Ml_sizes (pc := 29) dX11_compare_29 (by exact inSh h4) ?_
      refine V_bipush (v := 24) (pc := 30) dX11_compare_30 (by decide) ?_
      refine V_icmp_le (pc := 32) (tgt := 39) dX11_compare_32 (by decide) (fun h32 => ?_) (fun h32 => ?_)
      · skip
        refine V_aload_n (pc := 39) dX11_compare_39 0 rfl rfl ?_
        refine V_iload_n (pc := 40) dX11_compare_40 1 rfl rfl ?_
        refine McVv (pc := 41) dX11_compare_41 (cM_reads Z _ _ (by exact inSh h4) (by exact sz_le hs (inSh h4))) kM_165 rfl rfl (Nat.le_of_ble_eq_true rfl) (by decide) (by decide) ?_
        obtain ⟨l_, hl_, el_⟩ := hs _ (in_cl (inSh h4) (by decide)).2
        have ec_ : (S.2.2 33 a_.toNatClampNeg).toNatClampNeg = l_ := by rw [el_, nI_clamp (by omega)]
        have l24 : l_ ≤ 24 := by
          rw [el_] at h32
          exact (nI_leI (b := 24) (by omega) (by decide)).mp h32
        have hbb := bt_bd (fun i => S.2.2 34 (40 * a_.toNatClampNeg + i)) hl_
        have enb : nbI ((mRd S a_.toNatClampNeg).2.2 11) l_ = rwM S a_.toNatClampNeg l_ := by
          show nbI (rdI S a_.toNatClampNeg (S.2.2 33 a_.toNatClampNeg).toNatClampNeg) l_ = _
          rw [ec_]
          exact nbI_bt S _ _
        refine V_aload_n (pc := 44) dX11_compare_44 0 rfl rfl ?_
        refine V_callV (q0 := 0) (ci := 11) (C := RX11) (T := TX11) (N := 35) (pc := 45) dX11_compare_45 (cM_layLeast Z _ l_ (by exact el_) (by exact l24) (by rw [enb]; exact hbb)) kM_200 rfl rfl rfl rfl (Nat.le_of_ble_eq_true rfl) (by decide) (by decide) (Nat.le_refl _) (Nat.le_refl _) (fun v45 S45 hp45 => ?_)
        obtain ⟨rfl, A_, B_, rfl, hlea, hsA, hsB⟩ := hp45
        rw [enb] at hlea
        refine V_aload_n (pc := 48) dX11_compare_48 0 rfl rfl ?_
        refine V_aload_n (pc := 49) dX11_compare_49 0 rfl rfl ?_
        refine Mg_above (pc := 50) (v := (iL A_)) rfl dX11_compare_50 ?_
        refine V_aload_n (pc := 53) dX11_compare_53 0 rfl rfl ?_
        refine Mg_below (pc := 54) (v := (iL B_)) rfl dX11_compare_54 ?_
        refine McVl (pc := 57) dX11_compare_57 (cM_sizeOf Z _ _ _) kM_197 rfl rfl (Nat.le_of_ble_eq_true rfl) (by decide) (by decide) ?_
        refine V_eql (iL (szQ A_ B_)) (szO_i hsA hsB) ?_
        have zsm := sz_bd hsA hsB
        refine McSi (pc := 60) dX11_compare_60 (cM_digitsOf Z _ _) kM_203 rfl (Nat.le_of_ble_eq_true rfl) (by decide) (by decide) ?_
        refine V_eqi (nI (dgl (szQ A_ B_).toNat)) (by rw [iL_t (by omega)]) ?_
        refine V_aload_n (pc := 63) dX11_compare_63 0 rfl rfl ?_
        refine McVi (pc := 64) dX11_compare_64 (cM_layLaw Z _ (by show (S.2.2 33 a_.toNatClampNeg).toNatClampNeg ≤ 40; rw [ec_]; exact hl_)) kM_229 rfl rfl (Nat.le_of_ble_eq_true rfl) (by decide) (by decide) ?_
        refine V_isub (pc := 67) dX11_compare_67 ?_
        exact V_iret (pc := 68) dX11_compare_68 (Nat.le_of_ble_eq_true rfl) (Nat.le_of_ble_eq_true rfl) (hB _ _ (by refine ⟨Or.inr (Or.inr ⟨h4, h17, h32, A_, B_, by rw [ec_]; exact hlea, hsA, hsB, rfl⟩), mCor_law (mCor_L (mCor_rd S _) _ _)⟩))
      · skip
        refine V_sipush (v := (-1000)) (pc := 35) dX11_compare_35 (by decide) ?_
        exact V_iret (pc := 38) dX11_compare_38 (Nat.le_of_ble_eq_true rfl) (Nat.le_of_ble_eq_true rfl) (hB _ _ (by exact ⟨Or.inl ⟨Or.inr ⟨h17, h32⟩, rfl⟩, mCor_rfl S⟩))
    · skip
      refine V_sipush (v := (-1011)) (pc := 20) dX11_compare_20 (by decide) ?_
      exact V_iret (pc := 23) dX11_compare_23 (Nat.le_of_ble_eq_true rfl) (Nat.le_of_ble_eq_true rfl) (hB _ _ (by exact ⟨Or.inr (Or.inl ⟨h4, h17, rfl⟩), mCor_rfl S⟩))
  · skip
    refine V_sipush (v := (-1000)) (pc := 7) dX11_compare_7 (by decide) ?_
    exact V_iret (pc := 10) dX11_compare_10 (Nat.le_of_ble_eq_true rfl) (Nat.le_of_ble_eq_true rfl) (hB _ _ (by exact ⟨Or.inl ⟨Or.inl h4, rfl⟩, mCor_rfl S⟩))
