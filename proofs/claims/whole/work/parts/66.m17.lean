theorem mCor_tr {S T U : MS} (h : mCor S T) (k : mCor T U) : mCor S U := by
  obtain ⟨h1, h2, h3, h4, ⟨h5, h6, h7, h8, h9⟩, h10, h11, h12, h13, h14⟩ := h
  obtain ⟨k1, k2, k3, k4, ⟨k5, k6, k7, k8, k9⟩, k10, k11, k12, k13, k14⟩ := k
  exact ⟨k1.trans h1, k2.trans h2, k3.trans h3, k4.trans h4, ⟨k5.trans h5, k6.trans h6, k7.trans h7, k8.trans h8, k9.trans h9⟩, k10.trans h10, k11.trans h11, k12.trans h12, k13.trans h13, k14.trans h14⟩
theorem mCor_33 {S T : MS} (h : mCor S T) : T.2.2 33 = S.2.2 33 := h.2.2.2.2.2.2.2.2.1
set_option maxHeartbeats 4000000 in
set_option maxRecDepth 100000 in
theorem cM_chance (Z : VZ) (S : MS) (a_ : Int32) (z_ : Int32) (m_ : Int32) (n_ : Int32) (k_ : Int32) (p_ : Int32) (hs : sOK2 S) : Ct MW Z yX11_chance cX11_chance 9 (some .int) 61 0 0 [.ref (Z.2.2.2 99), .int a_, .int z_, .int m_, .int n_, .int k_, .int p_] (S) (fun v S' => v = some (.int (if ((0 ≤ a_ ∧ a_ ≤ 3) ∧ (1 ≤ m_ ∧ m_ ≤ 20) ∧ (0 ≤ n_ ∧ n_ ≤ 8) ∧ (0 ≤ k_ ∧ k_ ≤ 40) ∧ (0 ≤ p_ ∧ p_ ≤ 1)) then (if 0 ≤ S.2.2 32 a_.toNatClampNeg then (if S.2.2 33 a_.toNatClampNeg = 0 then -3 else (if p_ = 0 then nI (chN (rwM S a_.toNatClampNeg (S.2.2 33 a_.toNatClampNeg).toNatClampNeg) z_ (S.2.2 33 a_.toNatClampNeg).toNatClampNeg n_.toNatClampNeg k_ m_.toNatClampNeg) else m_) / nI (Nat.gcd m_.toNatClampNeg (chN (rwM S a_.toNatClampNeg (S.2.2 33 a_.toNatClampNeg).toNatClampNeg) z_ (S.2.2 33 a_.toNatClampNeg).toNatClampNeg n_.toNatClampNeg k_ m_.toNatClampNeg))) else -11) else -2)) ∧ mCor S S') := by
  refine V_entry (own := RX11) (by decide) rfl (Nat.le_of_ble_eq_true rfl) ?_
  intro B hB
  refine V_sub (L' := [(0, .ref (Z.2.2.2 99)), (1, .int a_), (2, .int z_), (3, .int m_), (4, .int n_), (5, .int k_), (6, .int p_)]) [0, 1, 2, 3, 4, 5, 6] rfl ?_
  refine V_iload_n (pc := 0) dX11_chance_0 1 rfl rfl ?_
  refine McSi (pc := 1) dX11_chance_1 (cM_isSheet Z _ _) kM_150 rfl (Nat.le_of_ble_eq_true rfl) (by decide) (by decide) ?_
  refine V_bif_eq (pc := 4) (tgt := 49) dX11_chance_4 (by decide) (fun h4 => ?_) (fun h4 => ?_)
  · skip
    refine V_bipush (v := (-2)) (pc := 49) dX11_chance_49 (by decide) ?_
    exact V_iret (pc := 51) dX11_chance_51 (Nat.le_of_ble_eq_true rfl) (Nat.le_of_ble_eq_true rfl) (hB _ _ ⟨congrArg (fun z => some (Value.int z)) (by first | exact (if_neg (fun h => h4 h.1)).symm | exact (if_neg (fun h => h14 h.2.1)).symm | exact (if_neg (fun h => h25 h.2.2.1)).symm | exact (if_neg (fun h => h36 h.2.2.2.1)).symm | exact (if_neg (fun h => h46 h.2.2.2.2)).symm), by exact mCor_rfl S⟩)
  · skip
    refine V_iload_n (pc := 7) dX11_chance_7 3 rfl rfl ?_
    refine V_iconst (v := 1) (pc := 8) dX11_chance_8 (by decide) ?_
    refine V_bipush (v := 20) (pc := 9) dX11_chance_9 (by decide) ?_
    refine McSi (pc := 11) dX11_chance_11 (cM_in Z _ _ _ _) kM_70 rfl (Nat.le_of_ble_eq_true rfl) (by decide) (by decide) ?_
    refine V_bif_eq (pc := 14) (tgt := 49) dX11_chance_14 (by decide) (fun h14 => ?_) (fun h14 => ?_)
    · skip
      refine V_bipush (v := (-2)) (pc := 49) dX11_chance_49 (by decide) ?_
      exact V_iret (pc := 51) dX11_chance_51 (Nat.le_of_ble_eq_true rfl) (Nat.le_of_ble_eq_true rfl) (hB _ _ ⟨congrArg (fun z => some (Value.int z)) (by first | exact (if_neg (fun h => h4 h.1)).symm | exact (if_neg (fun h => h14 h.2.1)).symm | exact (if_neg (fun h => h25 h.2.2.1)).symm | exact (if_neg (fun h => h36 h.2.2.2.1)).symm | exact (if_neg (fun h => h46 h.2.2.2.2)).symm), by exact mCor_rfl S⟩)
    · skip
      refine V_iload (pc := 17) dX11_chance_17 4 rfl ?_
      refine V_iconst (v := 0) (pc := 19) dX11_chance_19 (by decide) ?_
      refine V_bipush (v := 8) (pc := 20) dX11_chance_20 (by decide) ?_
      refine McSi (pc := 22) dX11_chance_22 (cM_in Z _ _ _ _) kM_70 rfl (Nat.le_of_ble_eq_true rfl) (by decide) (by decide) ?_
      refine V_bif_eq (pc := 25) (tgt := 49) dX11_chance_25 (by decide) (fun h25 => ?_) (fun h25 => ?_)
      · skip
        refine V_bipush (v := (-2)) (pc := 49) dX11_chance_49 (by decide) ?_
        exact V_iret (pc := 51) dX11_chance_51 (Nat.le_of_ble_eq_true rfl) (Nat.le_of_ble_eq_true rfl) (hB _ _ ⟨congrArg (fun z => some (Value.int z)) (by first | exact (if_neg (fun h => h4 h.1)).symm | exact (if_neg (fun h => h14 h.2.1)).symm | exact (if_neg (fun h => h25 h.2.2.1)).symm | exact (if_neg (fun h => h36 h.2.2.2.1)).symm | exact (if_neg (fun h => h46 h.2.2.2.2)).symm), by exact mCor_rfl S⟩)
      · skip
        refine V_iload (pc := 28) dX11_chance_28 5 rfl ?_
        refine V_iconst (v := 0) (pc := 30) dX11_chance_30 (by decide) ?_
        refine V_bipush (v := 40) (pc := 31) dX11_chance_31 (by decide) ?_
        refine McSi (pc := 33) dX11_chance_33 (cM_in Z _ _ _ _) kM_70 rfl (Nat.le_of_ble_eq_true rfl) (by decide) (by decide) ?_
        refine V_bif_eq (pc := 36) (tgt := 49) dX11_chance_36 (by decide) (fun h36 => ?_) (fun h36 => ?_)
        · skip
          refine V_bipush (v := (-2)) (pc := 49) dX11_chance_49 (by decide) ?_
          exact V_iret (pc := 51) dX11_chance_51 (Nat.le_of_ble_eq_true rfl) (Nat.le_of_ble_eq_true rfl) (hB _ _ ⟨congrArg (fun z => some (Value.int z)) (by first | exact (if_neg (fun h => h4 h.1)).symm | exact (if_neg (fun h => h14 h.2.1)).symm | exact (if_neg (fun h => h25 h.2.2.1)).symm | exact (if_neg (fun h => h36 h.2.2.2.1)).symm | exact (if_neg (fun h => h46 h.2.2.2.2)).symm), by exact mCor_rfl S⟩)
        · skip
          refine V_iload (pc := 39) dX11_chance_39 6 rfl ?_
          refine V_iconst (v := 0) (pc := 41) dX11_chance_41 (by decide) ?_
          refine V_iconst (v := 1) (pc := 42) dX11_chance_42 (by decide) ?_
          refine McSi (pc := 43) dX11_chance_43 (cM_in Z _ _ _ _) kM_70 rfl (Nat.le_of_ble_eq_true rfl) (by decide) (by decide) ?_
          refine V_bif_ne (pc := 46) (tgt := 52) dX11_chance_46 (by decide) (fun h46 => ?_) (fun h46 => ?_)
          · skip
            refine V_aload_n (pc := 52) dX11_chance_52 0 rfl rfl ?_
            refine Mg_sorts (pc := 53) dX11_chance_53 ?_
            refine V_iload_n (pc := 56) dX11_chance_56 1 rfl rfl ?_
            refine Ml_sorts (pc := 57) dX11_chance_57 (by exact inSh h4) ?_
            refine V_if_ge (pc := 58) (tgt := 64) dX11_chance_58 (by decide) (fun h58 => ?_) (fun h58 => ?_)
            · skip
              refine V_aload_n (pc := 64) dX11_chance_64 0 rfl rfl ?_
              refine Mg_sizes (pc := 65) dX11_chance_65 ?_
              refine V_iload_n (pc := 68) dX11_chance_68 1 rfl rfl ?_
              refine Ml_sizes (pc := 69) dX11_chance_69 (by exact inSh h4) ?_
              refine V_if_ne (pc := 70) (tgt := 76) dX11_chance_70 (by decide) (fun h70 => ?_) (fun h70 => ?_)
              · skip
                obtain ⟨l_, el_, hl0, hl_⟩ := sz_ex hs (inSh h4) h70
                have ec_ : (S.2.2 33 a_.toNatClampNeg).toNatClampNeg = l_ := by rw [el_, nI_clamp (by omega)]
                obtain ⟨m0, hm0, em0⟩ := nI_of2 (n := 20) rfl (Int32.not_lt.mpr (Int32.le_trans (by decide) h14.1)) h14.2
                have emm : m_.toNatClampNeg = m0 := by rw [em0, nI_clamp (by omega)]
                have hm1 : 0 < m0 := by
                  rcases Nat.eq_zero_or_pos m0 with z | z
                  · rw [em0, z] at h14; exact absurd h14.1 (by decide)
                  · exact z
                refine V_iconst (v := 0) (pc := 76) dX11_chance_76 (by decide) ?_
                refine V_istore (pc := 77) (L2 := [(0, .ref (Z.2.2.2 99)), (1, .int a_), (2, .int z_), (3, .int m_), (4, .int n_), (5, .int k_), (6, .int p_)]) dX11_chance_77 (by decide) rfl (fun x7_77 ex7_77 => ?_)
                subst ex7_77
                refine V_iconst (v := 0) (pc := 79) dX11_chance_79 (by decide) ?_
                refine V_istore (pc := 80) (L2 := [(7, .int 0), (0, .ref (Z.2.2.2 99)), (1, .int a_), (2, .int z_), (3, .int m_), (4, .int n_), (5, .int k_), (6, .int p_)]) dX11_chance_80 (by decide) rfl (fun x8_80 ex8_80 => ?_)
                subst ex8_80
                refine V_sub (L' := [(8, .int (nI 0)), (7, .int (nI 0)), (0, .ref (Z.2.2.2 99)), (1, .int a_), (2, .int z_), (3, .int m_), (4, .int n_), (5, .int k_), (6, .int p_)]) [0, 1, 2, 3, 4, 5, 6, 7, 8] rfl ?_
                refine Vloop (σ := Nat × Nat × MS) (fun x => mCor S (x.2.2) ∧ (x.2.1) ≤ m_.toNatClampNeg ∧ (x.1) = chN (rwM S a_.toNatClampNeg l_) z_ l_ n_.toNatClampNeg k_ (x.2.1)) (fun x => m_.toNatClampNeg - (x.2.1)) (fun x => V MW Z cX11_chance RX11 9 (some .int) 61 0 0 B 0 0 82 [(8, .int (nI (x.2.1))), (7, .int (nI (x.1))), (0, .ref (Z.2.2.2 99)), (1, .int a_), (2, .int z_), (3, .int m_), (4, .int n_), (5, .int k_), (6, .int p_)] [] ((x.2.2))) ?_ (0, 0, _) (by exact ⟨mCor_rfl S, Nat.zero_le _, rfl⟩)
                rintro ⟨u, j, U_⟩ hI82 ih82
                have hI82 : mCor S U_ ∧ j ≤ m_.toNatClampNeg ∧ u = chN (rwM S a_.toNatClampNeg l_) z_ l_ n_.toNatClampNeg k_ j := hI82
                show V MW Z cX11_chance RX11 9 (some .int) 61 0 0 B 0 0 82 [(8, .int (nI j)), (7, .int (nI u)), (0, .ref (Z.2.2.2 99)), (1, .int a_), (2, .int z_), (3, .int m_), (4, .int n_), (5, .int k_), (6, .int p_)] [] (U_)
                refine V_iload (pc := 82) dX11_chance_82 0 rfl ?_
                refine V_iload_n (pc := 84) dX11_chance_84 5 rfl rfl ?_
                refine V_icmp_ge (pc := 85) (tgt := 117) dX11_chance_85 (by decide) (fun h85 => ?_) (fun h85 => ?_)
                · skip
                  have hj : m_.toNatClampNeg ≤ j := jge h85 (by omega)
                  have ej : j = m_.toNatClampNeg := Nat.le_antisymm hI82.2.1 hj
                  have hu20 : u ≤ 20 := by
                    have := chN_le (rwM S a_.toNatClampNeg l_) z_ l_ n_.toNatClampNeg k_ j
                    rw [← hI82.2.2] at this
                    omega
                  refine V_iload_n (pc := 117) dX11_chance_117 5 rfl rfl ?_
                  refine V_eqi (nI m0) em0 ?_
                  refine V_iload (pc := 118) dX11_chance_118 1 rfl ?_
                  refine McSi (pc := 120) dX11_chance_120 (cM_common Z _ _ _ (by omega) (by omega)) kM_207 rfl (Nat.le_of_ble_eq_true rfl) (by decide) (by decide) ?_
                  have hg : 0 < Nat.gcd m0 u := Nat.gcd_pos_of_pos_left _ hm1
                  have hg2 : Nat.gcd m0 u ≤ m0 := Nat.gcd_le_left _ hm1
                  refine V_istore (pc := 123) (L2 := [(7, .int (nI u)), (0, .ref (Z.2.2.2 99)), (1, .int a_), (2, .int z_), (3, .int m_), (4, .int n_), (5, .int k_), (6, .int p_)]) dX11_chance_123 (by decide) rfl (fun x8_123 ex8_123 => ?_)
                  subst ex8_123
                  refine V_iload (pc := 125) dX11_chance_125 8 rfl ?_
                  refine V_if_ne (pc := 127) (tgt := 138) dX11_chance_127 (by decide) (fun h127 => ?_) (fun h127 => ?_)
                  · skip
                    refine V_iload_n (pc := 138) dX11_chance_138 5 rfl rfl ?_
                    refine V_iload (pc := 139) dX11_chance_139 0 rfl ?_
                    refine V_idiv (pc := 141) dX11_chance_141 (by exact nI_ne0 hg (by omega)) ?_
                    exact V_iret (pc := 142) dX11_chance_142 (Nat.le_of_ble_eq_true rfl) (Nat.le_of_ble_eq_true rfl) (hB _ _ ⟨congrArg (fun z => some (Value.int z)) (by rw [if_pos ⟨h4, h14, h25, h36, h46⟩, if_pos h58, if_neg h70, ec_, emm, show chN (rwM S a_.toNatClampNeg l_) z_ l_ n_.toNatClampNeg k_ m0 = u by rw [hI82.2.2, ej, emm]]; first | (rw [if_pos h127]; done) | (rw [if_neg h127]; done)), by exact hI82.1⟩)
                  · skip
                    refine V_iload (pc := 130) dX11_chance_130 1 rfl ?_
                    refine V_iload (pc := 132) dX11_chance_132 0 rfl ?_
                    refine V_idiv (pc := 134) dX11_chance_134 (by exact nI_ne0 hg (by omega)) ?_
                    refine V_goto (pc := 135) (tgt := 142) dX11_chance_135 (by decide) ?_
                    exact V_iret (pc := 142) dX11_chance_142 (Nat.le_of_ble_eq_true rfl) (Nat.le_of_ble_eq_true rfl) (hB _ _ ⟨congrArg (fun z => some (Value.int z)) (by rw [if_pos ⟨h4, h14, h25, h36, h46⟩, if_pos h58, if_neg h70, ec_, emm, show chN (rwM S a_.toNatClampNeg l_) z_ l_ n_.toNatClampNeg k_ m0 = u by rw [hI82.2.2, ej, emm]]; first | (rw [if_pos h127]; done) | (rw [if_neg h127]; done)), by exact hI82.1⟩)
                · skip
                  have hj : j < m_.toNatClampNeg := jlt h85 (by omega)
                  have e33 : U_.2.2 33 a_.toNatClampNeg = nI l_ := by rw [mCor_33 hI82.1, el_]
                  refine V_aload_n (pc := 88) dX11_chance_88 2 rfl rfl ?_
                  refine V_iload_n (pc := 89) dX11_chance_89 3 rfl rfl ?_
                  refine V_iload_n (pc := 90) dX11_chance_90 4 rfl rfl ?_
                  refine V_iload (pc := 91) dX11_chance_91 0 rfl ?_
                  refine V_iadd (pc := 93) dX11_chance_93 ?_
                  refine V_iload (pc := 94) dX11_chance_94 6 rfl ?_
                  refine McVv (pc := 96) dX11_chance_96 (cM_spoils Z _ _ _ _ (by exact inSh h4) (by exact ⟨l_, e33, hl0, hl_⟩)) kM_249 rfl rfl (Nat.le_of_ble_eq_true rfl) (by decide) (by decide) ?_
                  refine V_aload_n (pc := 99) dX11_chance_99 2 rfl rfl ?_
                  refine McVi (pc := 100) dX11_chance_100 (cM_layLaw Z _ (by show (U_.2.2 33 a_.toNatClampNeg).toNatClampNeg ≤ 40; rw [e33, nI_clamp (by omega)]; exact hl_)) kM_229 rfl rfl (Nat.le_of_ble_eq_true rfl) (by decide) (by decide) ?_
                  refine V_eqi (lfX (slX (rwM S a_.toNatClampNeg l_) (z_ + nI j) l_ n_.toNatClampNeg) l_).2.2.2.2 (by
                      rw [show ((spS U_ a_.toNatClampNeg (z_ + nI j) n_.toNatClampNeg).1 12).toNatClampNeg = l_ by show (U_.2.2 33 a_.toNatClampNeg).toNatClampNeg = l_; rw [e33, nI_clamp (by omega)]]
                      exact sp_law hI82.1 _ _ e33 hl0 hl_) ?_
                  refine V_iload (pc := 103) dX11_chance_103 7 rfl ?_
                  refine V_icmp_gt (pc := 105) (tgt := 111) dX11_chance_105 (by decide) (fun h105 => ?_) (fun h105 => ?_)
                  · skip
                    refine V_iinc (pc := 111) (v := 1) (L2 := [(7, .int (nI u)), (0, .ref (Z.2.2.2 99)), (1, .int a_), (2, .int z_), (3, .int m_), (4, .int n_), (5, .int k_), (6, .int p_)]) dX11_chance_111 0 rfl (by decide) (by decide) rfl (fun x8_111 ex8_111 => ?_)
                    rw [nI_1] at ex8_111
                    subst ex8_111
                    refine V_goto (pc := 114) (tgt := 82) dX11_chance_114 (by decide) ?_
                    refine V_sub (L' := [(8, .int (nI (j + 1))), (7, .int (nI u)), (0, .ref (Z.2.2.2 99)), (1, .int a_), (2, .int z_), (3, .int m_), (4, .int n_), (5, .int k_), (6, .int p_)]) [0, 1, 2, 3, 4, 5, 6, 7, 8] rfl ?_
                    refine ih82 ((u), ((j + 1)), _) ?_ ?_
                    · refine ⟨mCor_law (mCor_tr hI82.1 (mCor_sp U_ _ _ _)), hj, ?_⟩
                      show _ = chN (rwM S a_.toNatClampNeg l_) z_ l_ n_.toNatClampNeg k_ (j + 1)
                      rw [hI82.2.2]
                      first | exact (if_pos h105).symm | exact (if_neg h105).symm
                    · show m_.toNatClampNeg - (j + 1) < m_.toNatClampNeg - j
                      omega
                  · skip
                    refine V_iinc (pc := 108) (v := 1) (L2 := [(8, .int (nI j)), (0, .ref (Z.2.2.2 99)), (1, .int a_), (2, .int z_), (3, .int m_), (4, .int n_), (5, .int k_), (6, .int p_)]) dX11_chance_108 1 rfl (by decide) (by decide) rfl (fun x7_108 ex7_108 => ?_)
                    rw [nI_1] at ex7_108
                    subst ex7_108
                    refine V_iinc (pc := 111) (v := 1) (L2 := [(7, .int (nI (u + 1))), (0, .ref (Z.2.2.2 99)), (1, .int a_), (2, .int z_), (3, .int m_), (4, .int n_), (5, .int k_), (6, .int p_)]) dX11_chance_111 1 rfl (by decide) (by decide) rfl (fun x8_111 ex8_111 => ?_)
                    rw [nI_1] at ex8_111
                    subst ex8_111
                    refine V_goto (pc := 114) (tgt := 82) dX11_chance_114 (by decide) ?_
                    refine V_sub (L' := [(8, .int (nI (j + 1))), (7, .int (nI (u + 1))), (0, .ref (Z.2.2.2 99)), (1, .int a_), (2, .int z_), (3, .int m_), (4, .int n_), (5, .int k_), (6, .int p_)]) [0, 1, 2, 3, 4, 5, 6, 7, 8] rfl ?_
                    refine ih82 (((u + 1)), ((j + 1)), _) ?_ ?_
                    · refine ⟨mCor_law (mCor_tr hI82.1 (mCor_sp U_ _ _ _)), hj, ?_⟩
                      show _ = chN (rwM S a_.toNatClampNeg l_) z_ l_ n_.toNatClampNeg k_ (j + 1)
                      rw [hI82.2.2]
                      first | exact (if_pos h105).symm | exact (if_neg h105).symm
                    · show m_.toNatClampNeg - (j + 1) < m_.toNatClampNeg - j
                      omega
              · skip
                refine V_bipush (v := (-3)) (pc := 73) dX11_chance_73 (by decide) ?_
                exact V_iret (pc := 75) dX11_chance_75 (Nat.le_of_ble_eq_true rfl) (Nat.le_of_ble_eq_true rfl) (hB _ _ ⟨congrArg (fun z => some (Value.int z)) (by rw [if_pos ⟨h4, h14, h25, h36, h46⟩, if_pos h58, if_pos h70]), by exact mCor_rfl S⟩)
            · skip
              refine V_bipush (v := (-11)) (pc := 61) dX11_chance_61 (by decide) ?_
              exact V_iret (pc := 63) dX11_chance_63 (Nat.le_of_ble_eq_true rfl) (Nat.le_of_ble_eq_true rfl) (hB _ _ ⟨congrArg (fun z => some (Value.int z)) (by rw [if_pos ⟨h4, h14, h25, h36, h46⟩, if_neg h58]), by exact mCor_rfl S⟩)
          · skip
            refine V_bipush (v := (-2)) (pc := 49) dX11_chance_49 (by decide) ?_
            exact V_iret (pc := 51) dX11_chance_51 (Nat.le_of_ble_eq_true rfl) (Nat.le_of_ble_eq_true rfl) (hB _ _ ⟨congrArg (fun z => some (Value.int z)) (by first | exact (if_neg (fun h => h4 h.1)).symm | exact (if_neg (fun h => h14 h.2.1)).symm | exact (if_neg (fun h => h25 h.2.2.1)).symm | exact (if_neg (fun h => h36 h.2.2.2.1)).symm | exact (if_neg (fun h => h46 h.2.2.2.2)).symm), by exact mCor_rfl S⟩)
/-- one step of what is in thought -/
abbrev mSt1 (S : MS) (i : Nat) : Int32 × Int32 → Int32 × Int32 := fun q => (stS (S.2.2 1 i) (S.2.2 2 i) (S.2.2 3 i) q.1 q.2, stY (S.2.2 1 i) (S.2.2 2 i) (S.2.2 3 i) q.1 q.2)
abbrev mSt0 (S : MS) (i : Nat) : Int32 × Int32 := (S.2.2 4 i, S.2.2 5 i)
theorem mRn_fn (S : MS) (i n : Nat) : mRn S i n = fn (mSt1 S i) n (mSt0 S i) := rfl
theorem mThN_mTh (S : MS) (i : Nat) (k c t s y : Int32) (n : Nat) : mThN (mTh S k c t s y) i n = mThN S i n := mTh_mTh S _ _ _ _ _ _ _ _ _ _
theorem mThN_mThN (S : MS) (i k n : Nat) : mThN (mThN S i k) i n = mThN S i n := mThN_mTh S i _ _ _ _ _ n
def orbM (S : MS) (i : Nat) : Prop := ∃ j d, 1 ≤ d ∧ j + d ≤ 5000 ∧ mRn S i (j + d) = mRn S i j
theorem orbM_hit {S : MS} {i : Nat} (h : orbM S i) : ∃ d, 1 ≤ d ∧ d ≤ 5000 ∧ ∀ s, 5000 ≤ s → mRn S i (s + d) = mRn S i s := by
  obtain ⟨j, d, h1, h2, h3⟩ := h
  exact ⟨d, h1, by omega, fun s hs => fn_ge (F := mSt1 S i) h3 (by omega)⟩
theorem mCor_thN (S : MS) (i n : Nat) : mCor S (mThN S i n) := ⟨rfl, rfl, rfl, rfl, ⟨rfl, rfl, rfl, rfl, rfl⟩, rfl, rfl, rfl, rfl, rfl⟩
set_option maxHeartbeats 4000000 in
set_option maxRecDepth 100000 in
theorem cM_isAgain (Z : VZ) (S : MS) (x_ n_ : Nat) (a_ : Int32) (ha : vp_in a_ 4) (hx : x_ ≤ 20000) (hn : n_ ≤ 20000) : CtF MW Z yX11_isAgain cX11_isAgain 8 (some .boolean) 3 0 0 [.ref (Z.2.2.2 99), .int a_, .int (nI x_), .int (nI n_)] (S) (some (.int (bI (mRn S a_.toNatClampNeg (x_ + n_) = mRn S a_.toNatClampNeg x_)))) (mThN S a_.toNatClampNeg (x_ + n_)) := by
  refine V_entry (own := RX11) (by decide) rfl (Nat.le_of_ble_eq_true rfl) ?_
  intro B hB
  refine V_sub (L' := [(0, .ref (Z.2.2.2 99)), (1, .int a_), (2, .int (nI x_)), (3, .int (nI n_))]) [0, 1, 2, 3] rfl ?_
  refine V_aload_n (pc := 0) dX11_isAgain_0 0 rfl rfl ?_
  refine V_iload_n (pc := 1) dX11_isAgain_1 1 rfl rfl ?_
  refine McVv (pc := 2) dX11_isAgain_2 (cM_thinks Z _ _ (by assumption)) kM_140 rfl rfl (Nat.le_of_ble_eq_true rfl) (by decide) (by decide) ?_
  refine V_iconst (v := 0) (pc := 5) dX11_isAgain_5 (by decide) ?_
  refine V_istore (pc := 6) (L2 := [(0, .ref (Z.2.2.2 99)), (1, .int a_), (2, .int (nI x_)), (3, .int (nI n_))]) dX11_isAgain_6 (by decide) rfl (fun x4_6 ex4_6 => ?_)
  subst ex4_6
  refine V_sub (L' := [(4, .int (nI 0)), (0, .ref (Z.2.2.2 99)), (1, .int a_), (2, .int (nI x_)), (3, .int (nI n_))]) [0, 1, 2, 3, 4] rfl ?_
  refine Vloop (σ := Nat) (fun x => x ≤ x_) (fun x => x_ - x) (fun x => V MW Z cX11_isAgain RX11 8 (some .boolean) 3 0 0 B 0 0 8 [(4, .int (nI x)), (0, .ref (Z.2.2.2 99)), (1, .int a_), (2, .int (nI x_)), (3, .int (nI n_))] [] (mThN S a_.toNatClampNeg x)) ?_ 0 (by exact Nat.zero_le _)
  rintro j hI8 ih8
  have hI8 : j ≤ x_ := hI8
  show V MW Z cX11_isAgain RX11 8 (some .boolean) 3 0 0 B 0 0 8 [(4, .int (nI j)), (0, .ref (Z.2.2.2 99)), (1, .int a_), (2, .int (nI x_)), (3, .int (nI n_))] [] (mThN S a_.toNatClampNeg j)
  refine V_iload (pc := 8) dX11_isAgain_8 0 rfl ?_
  refine V_iload_n (pc := 10) dX11_isAgain_10 3 rfl rfl ?_
  refine V_icmp_ge (pc := 11) (tgt := 26) dX11_isAgain_11 (by decide) (fun h11 => ?_) (fun h11 => ?_)
  · skip
    have ej : j = x_ := Nat.le_antisymm hI8 ((nI_leI (by omega) (by omega)).mp h11)
    refine V_eqS (mThN S a_.toNatClampNeg (x_ + 0)) (by rw [ej]; rfl) ?_
    refine V_aload_n (pc := 26) dX11_isAgain_26 1 rfl rfl ?_
    refine Mg_state (pc := 27) (v := (mRn S a_.toNatClampNeg x_).1) rfl dX11_isAgain_27 ?_
    refine V_istore (pc := 30) (L2 := [(0, .ref (Z.2.2.2 99)), (1, .int a_), (2, .int (nI x_)), (3, .int (nI n_))]) dX11_isAgain_30 (by decide) rfl (fun x4_30 ex4_30 => ?_)
    subst ex4_30
    refine V_aload_n (pc := 32) dX11_isAgain_32 1 rfl rfl ?_
    refine Mg_carry (pc := 33) (v := (mRn S a_.toNatClampNeg x_).2) rfl dX11_isAgain_33 ?_
    refine V_istore (pc := 36) (L2 := [(4, .int (mRn S a_.toNatClampNeg x_).1), (0, .ref (Z.2.2.2 99)), (1, .int a_), (2, .int (nI x_)), (3, .int (nI n_))]) dX11_isAgain_36 (by decide) rfl (fun x5_36 ex5_36 => ?_)
    subst ex5_36
    refine V_iconst (v := 0) (pc := 38) dX11_isAgain_38 (by decide) ?_
    refine V_istore (pc := 39) (L2 := [(5, .int (mRn S a_.toNatClampNeg x_).2), (4, .int (mRn S a_.toNatClampNeg x_).1), (0, .ref (Z.2.2.2 99)), (1, .int a_), (2, .int (nI x_)), (3, .int (nI n_))]) dX11_isAgain_39 (by decide) rfl (fun x6_39 ex6_39 => ?_)
    subst ex6_39
    refine V_sub (L' := [(6, .int (nI 0)), (5, .int (mRn S a_.toNatClampNeg x_).2), (4, .int (mRn S a_.toNatClampNeg x_).1), (0, .ref (Z.2.2.2 99)), (1, .int a_), (2, .int (nI x_)), (3, .int (nI n_))]) [0, 1, 2, 3, 4, 5, 6] rfl ?_
    refine Vloop (σ := Nat) (fun x => x ≤ n_) (fun x => n_ - x) (fun x => V MW Z cX11_isAgain RX11 8 (some .boolean) 3 0 0 B 0 0 41 [(6, .int (nI x)), (5, .int (mRn S a_.toNatClampNeg x_).2), (4, .int (mRn S a_.toNatClampNeg x_).1), (0, .ref (Z.2.2.2 99)), (1, .int a_), (2, .int (nI x_)), (3, .int (nI n_))] [] (mThN S a_.toNatClampNeg (x_ + x))) ?_ 0 (by exact Nat.zero_le _)
    rintro j hI41 ih41
    have hI41 : j ≤ n_ := hI41
    show V MW Z cX11_isAgain RX11 8 (some .boolean) 3 0 0 B 0 0 41 [(6, .int (nI j)), (5, .int (mRn S a_.toNatClampNeg x_).2), (4, .int (mRn S a_.toNatClampNeg x_).1), (0, .ref (Z.2.2.2 99)), (1, .int a_), (2, .int (nI x_)), (3, .int (nI n_))] [] (mThN S a_.toNatClampNeg (x_ + j))
    refine V_iload (pc := 41) dX11_isAgain_41 0 rfl ?_
    refine V_iload_n (pc := 43) dX11_isAgain_43 6 rfl rfl ?_
    refine V_icmp_ge (pc := 44) (tgt := 59) dX11_isAgain_44 (by decide) (fun h44 => ?_) (fun h44 => ?_)
    · skip
      have ej2 : j = n_ := Nat.le_antisymm hI41 ((nI_leI (by omega) (by omega)).mp h44)
      refine V_eqS (mThN S a_.toNatClampNeg (x_ + n_)) (by rw [ej2]) ?_
      refine V_aload_n (pc := 59) dX11_isAgain_59 3 rfl rfl ?_
      refine Mg_state (pc := 60) (v := (mRn S a_.toNatClampNeg (x_ + n_)).1) rfl dX11_isAgain_60 ?_
      refine V_iload (pc := 63) dX11_isAgain_63 2 rfl ?_
      refine V_icmp_ne (pc := 65) (tgt := 81) dX11_isAgain_65 (by decide) (fun h65 => ?_) (fun h65 => ?_)
      · skip
        refine V_iconst (v := 0) (pc := 81) dX11_isAgain_81 (by decide) ?_
        exact V_zret (pc := 82) dX11_isAgain_82 (Nat.le_of_ble_eq_true rfl) (Nat.le_of_ble_eq_true rfl) (Or.inl rfl) (hB _ _ ⟨congrArg (fun z => some (Value.int z)) (by exact (bI_f (fun h => h65 (congrArg Prod.fst h))).symm), by rfl⟩)
      · skip
        refine V_aload_n (pc := 68) dX11_isAgain_68 3 rfl rfl ?_
        refine Mg_carry (pc := 69) (v := (mRn S a_.toNatClampNeg (x_ + n_)).2) rfl dX11_isAgain_69 ?_
        refine V_iload (pc := 72) dX11_isAgain_72 1 rfl ?_
        refine V_icmp_ne (pc := 74) (tgt := 81) dX11_isAgain_74 (by decide) (fun h74 => ?_) (fun h74 => ?_)
        · skip
          refine V_iconst (v := 0) (pc := 81) dX11_isAgain_81 (by decide) ?_
          exact V_zret (pc := 82) dX11_isAgain_82 (Nat.le_of_ble_eq_true rfl) (Nat.le_of_ble_eq_true rfl) (Or.inl rfl) (hB _ _ ⟨congrArg (fun z => some (Value.int z)) (by first | exact (bI_t (Prod.ext h65 h74)).symm | exact (bI_f (fun h => h74 (congrArg Prod.snd h))).symm), by rfl⟩)
        · skip
          refine V_iconst (v := 1) (pc := 77) dX11_isAgain_77 (by decide) ?_
          refine V_goto (pc := 78) (tgt := 82) dX11_isAgain_78 (by decide) ?_
          exact V_zret (pc := 82) dX11_isAgain_82 (Nat.le_of_ble_eq_true rfl) (Nat.le_of_ble_eq_true rfl) (Or.inr rfl) (hB _ _ ⟨congrArg (fun z => some (Value.int z)) (by first | exact (bI_t (Prod.ext h65 h74)).symm | exact (bI_f (fun h => h74 (congrArg Prod.snd h))).symm), by rfl⟩)
    · skip
      have hj : j < n_ := Nat.not_le.mp fun q => h44 (nI_le q (by omega))
      refine V_aload_n (pc := 47) dX11_isAgain_47 3 rfl rfl ?_
      refine McVi (pc := 48) dX11_isAgain_48 (cM_steps Z _ _ _ _ _ _) kM_144 rfl rfl (Nat.le_of_ble_eq_true rfl) (by decide) (by decide) ?_
      refine V_istore (pc := 51) (L2 := [(6, .int (nI j)), (5, .int (mRn S a_.toNatClampNeg x_).2), (4, .int (mRn S a_.toNatClampNeg x_).1), (0, .ref (Z.2.2.2 99)), (1, .int a_), (2, .int (nI x_)), (3, .int (nI n_))]) dX11_isAgain_51 (by decide) rfl (fun x7_51 ex7_51 => ?_)
      refine V_iinc (pc := 53) (v := 1) (L2 := [(7, .int x7_51), (5, .int (mRn S a_.toNatClampNeg x_).2), (4, .int (mRn S a_.toNatClampNeg x_).1), (0, .ref (Z.2.2.2 99)), (1, .int a_), (2, .int (nI x_)), (3, .int (nI n_))]) dX11_isAgain_53 1 rfl (by decide) (by decide) rfl (fun x6_53 ex6_53 => ?_)
      rw [nI_1] at ex6_53
      subst ex6_53
      refine V_goto (pc := 56) (tgt := 41) dX11_isAgain_56 (by decide) ?_
      refine V_sub (L' := [(6, .int (nI (j + 1))), (5, .int (mRn S a_.toNatClampNeg x_).2), (4, .int (mRn S a_.toNatClampNeg x_).1), (0, .ref (Z.2.2.2 99)), (1, .int a_), (2, .int (nI x_)), (3, .int (nI n_))]) [0, 2, 3, 4, 5, 6, 7] rfl ?_
      refine ih41 ((j + 1)) ?_ ?_
      · show ((j + 1)) ≤ n_
        exact hj
      · show n_ - (j + 1) < n_ - j
        omega
  · skip
    have hj : j < x_ := Nat.not_le.mp fun q => h11 (nI_le q (by omega))
    refine V_aload_n (pc := 14) dX11_isAgain_14 1 rfl rfl ?_
    refine McVi (pc := 15) dX11_isAgain_15 (cM_steps Z _ _ _ _ _ _) kM_144 rfl rfl (Nat.le_of_ble_eq_true rfl) (by decide) (by decide) ?_
    refine V_istore (pc := 18) (L2 := [(4, .int (nI j)), (0, .ref (Z.2.2.2 99)), (1, .int a_), (2, .int (nI x_)), (3, .int (nI n_))]) dX11_isAgain_18 (by decide) rfl (fun x5_18 ex5_18 => ?_)
    refine V_iinc (pc := 20) (v := 1) (L2 := [(5, .int x5_18), (0, .ref (Z.2.2.2 99)), (1, .int a_), (2, .int (nI x_)), (3, .int (nI n_))]) dX11_isAgain_20 1 rfl (by decide) (by decide) rfl (fun x4_20 ex4_20 => ?_)
    rw [nI_1] at ex4_20
    subst ex4_20
    refine V_goto (pc := 23) (tgt := 8) dX11_isAgain_23 (by decide) ?_
    refine V_sub (L' := [(4, .int (nI (j + 1))), (0, .ref (Z.2.2.2 99)), (1, .int a_), (2, .int (nI x_)), (3, .int (nI n_))]) [0, 2, 3, 4, 5] rfl ?_
    refine ih8 ((j + 1)) ?_ ?_
    · show ((j + 1)) ≤ x_
      exact hj
    · show x_ - (j + 1) < x_ - j
      omega
set_option maxHeartbeats 4000000 in
set_option maxRecDepth 100000 in
theorem cM_cycle (Z : VZ) (S : MS) (a_ : Int32) (w_ : Int32) (hm : mOK S) (hor : (0 ≤ a_ ∧ a_ ≤ S.1 0 - 1) → orbM S a_.toNatClampNeg) : Ct MW Z yX11_cycle cX11_cycle 7 (some .int) 4 0 0 [.ref (Z.2.2.2 99), .int a_, .int w_] (S) (fun v S' => ((¬ ((0 ≤ a_ ∧ a_ ≤ S.1 0 - 1) ∧ (0 ≤ w_ ∧ w_ ≤ 1)) ∧ v = some (.int (-2))) ∨ (((0 ≤ a_ ∧ a_ ≤ S.1 0 - 1) ∧ (0 ≤ w_ ∧ w_ ≤ 1)) ∧ ∃ r, v = some (.int r) ∧ cycQ (mSt1 S a_.toNatClampNeg) (mSt0 S a_.toNatClampNeg) w_ r)) ∧ mCor S S') := by
  refine V_entry (own := RX11) (by decide) rfl (Nat.le_of_ble_eq_true rfl) ?_
  intro B hB
  obtain ⟨F_, eF⟩ : ∃ F_ : Nat, F_ = 10000 := ⟨_, rfl⟩
  refine V_sub (L' := [(0, .ref (Z.2.2.2 99)), (1, .int a_), (2, .int w_)]) [0, 1, 2] rfl ?_
  refine V_aload_n (pc := 0) dX11_cycle_0 0 rfl rfl ?_
  refine V_iload_n (pc := 1) dX11_cycle_1 1 rfl rfl ?_
  refine McVi (pc := 2) dX11_cycle_2 (cM_isMachine Z _ _) kM_86 rfl rfl (Nat.le_of_ble_eq_true rfl) (by decide) (by decide) ?_
  refine V_bif_eq (pc := 5) (tgt := 17) dX11_cycle_5 (by decide) (fun h5 => ?_) (fun h5 => ?_)
  · skip
    refine V_bipush (v := (-2)) (pc := 17) dX11_cycle_17 (by decide) ?_
    exact V_iret (pc := 19) dX11_cycle_19 (Nat.le_of_ble_eq_true rfl) (Nat.le_of_ble_eq_true rfl) (hB _ _ (by first | exact ⟨Or.inl ⟨fun h => h5 h.1, rfl⟩, mCor_rfl S⟩ | exact ⟨Or.inl ⟨fun h => h14 h.2, rfl⟩, mCor_rfl S⟩))
  · skip
    refine V_iload_n (pc := 8) dX11_cycle_8 2 rfl rfl ?_
    refine V_iconst (v := 0) (pc := 9) dX11_cycle_9 (by decide) ?_
    refine V_iconst (v := 1) (pc := 10) dX11_cycle_10 (by decide) ?_
    refine McSi (pc := 11) dX11_cycle_11 (cM_in Z _ _ _ _) kM_70 rfl (Nat.le_of_ble_eq_true rfl) (by decide) (by decide) ?_
    refine V_bif_ne (pc := 14) (tgt := 20) dX11_cycle_14 (by decide) (fun h14 => ?_) (fun h14 => ?_)
    · skip
      refine V_aload_n (pc := 20) dX11_cycle_20 0 rfl rfl ?_
      refine V_iload_n (pc := 21) dX11_cycle_21 1 rfl rfl ?_
      refine McVv (pc := 22) dX11_cycle_22 (cM_thinks Z _ _ (by exact inMach hm h5)) kM_140 rfl rfl (Nat.le_of_ble_eq_true rfl) (by decide) (by decide) ?_
      refine V_iconst (v := 0) (pc := 25) dX11_cycle_25 (by decide) ?_
      refine V_istore_n (pc := 26) (L2 := [(0, .ref (Z.2.2.2 99)), (1, .int a_), (2, .int w_)]) dX11_cycle_26 rfl (by decide) rfl (fun x3_26 ex3_26 => ?_)
      subst ex3_26
      refine V_sub (L' := [(3, .int (nI 0)), (0, .ref (Z.2.2.2 99)), (1, .int a_), (2, .int w_)]) [0, 1, 2, 3] rfl ?_
      refine Vloop (σ := Nat) (fun x => x ≤ F_) (fun x => F_ - x) (fun x => V MW Z cX11_cycle RX11 7 (some .int) 4 0 0 B 0 0 27 [(3, .int (nI x)), (0, .ref (Z.2.2.2 99)), (1, .int a_), (2, .int w_)] [] (mThN S a_.toNatClampNeg x)) ?_ 0 (by exact Nat.zero_le _)
      rintro j hI27 ih27
      have hI27 : j ≤ F_ := hI27
      show V MW Z cX11_cycle RX11 7 (some .int) 4 0 0 B 0 0 27 [(3, .int (nI j)), (0, .ref (Z.2.2.2 99)), (1, .int a_), (2, .int w_)] [] (mThN S a_.toNatClampNeg j)
      refine V_iload_n (pc := 27) dX11_cycle_27 0 rfl rfl ?_
      refine V_sipush (v := 10000) (pc := 28) dX11_cycle_28 (by decide) ?_
      refine V_icmp_ge (pc := 31) (tgt := 46) dX11_cycle_31 (by decide) (fun h31 => ?_) (fun h31 => ?_)
      · skip
        have ej : j = F_ := Nat.le_antisymm hI27 (by rw [show (10000 : Int32) = nI F_ by rw [eF]; rfl] at h31; exact (nI_leI (by omega) (by omega)).mp h31)
        obtain ⟨d_, d1, d2, d3⟩ := orbM_hit (hor h5)
        refine V_eqS (mThN S a_.toNatClampNeg (F_ + 0)) (by rw [ej, Nat.add_zero]) ?_
        refine V_aload_n (pc := 46) dX11_cycle_46 1 rfl rfl ?_
        refine Mg_state (pc := 47) (v := (mRn S a_.toNatClampNeg F_).1) rfl dX11_cycle_47 ?_
        refine V_istore_n (pc := 50) (L2 := [(0, .ref (Z.2.2.2 99)), (1, .int a_), (2, .int w_)]) dX11_cycle_50 rfl (by decide) rfl (fun x3_50 ex3_50 => ?_)
        subst ex3_50
        refine V_aload_n (pc := 51) dX11_cycle_51 1 rfl rfl ?_
        refine Mg_carry (pc := 52) (v := (mRn S a_.toNatClampNeg F_).2) rfl dX11_cycle_52 ?_
        refine V_istore (pc := 55) (L2 := [(3, .int (mRn S a_.toNatClampNeg F_).1), (0, .ref (Z.2.2.2 99)), (1, .int a_), (2, .int w_)]) dX11_cycle_55 (by decide) rfl (fun x4_55 ex4_55 => ?_)
        subst ex4_55
        refine V_iconst (v := 0) (pc := 57) dX11_cycle_57 (by decide) ?_
        refine V_istore (pc := 58) (L2 := [(4, .int (mRn S a_.toNatClampNeg F_).2), (3, .int (mRn S a_.toNatClampNeg F_).1), (0, .ref (Z.2.2.2 99)), (1, .int a_), (2, .int w_)]) dX11_cycle_58 (by decide) rfl (fun x5_58 ex5_58 => ?_)
        subst ex5_58
        refine V_sub (L' := [(5, .int (nI 0)), (4, .int (mRn S a_.toNatClampNeg F_).2), (3, .int (mRn S a_.toNatClampNeg F_).1), (0, .ref (Z.2.2.2 99)), (1, .int a_), (2, .int w_)]) [0, 1, 2, 3, 4, 5] rfl ?_
        refine Vloop (σ := Nat) (fun x => x < d_ ∧ (∀ i, 1 ≤ i → i ≤ x → mRn S a_.toNatClampNeg (F_ + i) ≠ mRn S a_.toNatClampNeg F_)) (fun x => d_ - x) (fun x => V MW Z cX11_cycle RX11 7 (some .int) 4 0 0 B 0 0 60 [(5, .int (nI x)), (4, .int (mRn S a_.toNatClampNeg F_).2), (3, .int (mRn S a_.toNatClampNeg F_).1), (0, .ref (Z.2.2.2 99)), (1, .int a_), (2, .int w_)] [] (mThN S a_.toNatClampNeg (F_ + x))) ?_ 0 (by exact ⟨d1, fun i h1 h2 => absurd (show i ≤ 0 from h2) (by omega)⟩)
        rintro k hI60 ih60
        have hI60 : k < d_ ∧ (∀ i, 1 ≤ i → i ≤ k → mRn S a_.toNatClampNeg (F_ + i) ≠ mRn S a_.toNatClampNeg F_) := hI60
        show V MW Z cX11_cycle RX11 7 (some .int) 4 0 0 B 0 0 60 [(5, .int (nI k)), (4, .int (mRn S a_.toNatClampNeg F_).2), (3, .int (mRn S a_.toNatClampNeg F_).1), (0, .ref (Z.2.2.2 99)), (1, .int a_), (2, .int w_)] [] (mThN S a_.toNatClampNeg (F_ + k))
        refine V_aload_n (pc := 60) dX11_cycle_60 3 rfl rfl ?_
        refine McVi (pc := 61) dX11_cycle_61 (cM_steps Z _ _ _ _ _ _) kM_144 rfl rfl (Nat.le_of_ble_eq_true rfl) (by decide) (by decide) ?_
        refine V_eqS (mThN S a_.toNatClampNeg (F_ + (k + 1))) rfl ?_
        refine V_istore (pc := 64) (L2 := [(5, .int (nI k)), (4, .int (mRn S a_.toNatClampNeg F_).2), (3, .int (mRn S a_.toNatClampNeg F_).1), (0, .ref (Z.2.2.2 99)), (1, .int a_), (2, .int w_)]) dX11_cycle_64 (by decide) rfl (fun x6_64 ex6_64 => ?_)
        refine V_iinc (pc := 66) (v := 1) (L2 := [(6, .int x6_64), (4, .int (mRn S a_.toNatClampNeg F_).2), (3, .int (mRn S a_.toNatClampNeg F_).1), (0, .ref (Z.2.2.2 99)), (1, .int a_), (2, .int w_)]) dX11_cycle_66 1 rfl (by decide) (by decide) rfl (fun x5_66 ex5_66 => ?_)
        rw [nI_1] at ex5_66
        subst ex5_66
        refine V_aload_n (pc := 69) dX11_cycle_69 4 rfl rfl ?_
        refine Mg_state (pc := 70) (v := (mRn S a_.toNatClampNeg (F_ + (k + 1))).1) rfl dX11_cycle_70 ?_
        refine V_iload_n (pc := 73) dX11_cycle_73 3 rfl rfl ?_
        refine V_icmp_ne (pc := 74) (tgt := 60) dX11_cycle_74 (by decide) (fun h74 => ?_) (fun h74 => ?_)
        · skip
          have hxx : mRn S a_.toNatClampNeg (F_ + (k + 1)) ≠ mRn S a_.toNatClampNeg F_ := fun z => h74 (congrArg Prod.fst z)
          refine V_sub (L' := [(5, .int (nI (k + 1))), (4, .int (mRn S a_.toNatClampNeg F_).2), (3, .int (mRn S a_.toNatClampNeg F_).1), (0, .ref (Z.2.2.2 99)), (1, .int a_), (2, .int w_)]) [0, 2, 3, 4, 5, 6] rfl ?_
          refine ih60 ((k + 1)) ?_ ?_
          · show ((k + 1)) < d_ ∧ (∀ i, 1 ≤ i → i ≤ ((k + 1)) → mRn S a_.toNatClampNeg (F_ + i) ≠ mRn S a_.toNatClampNeg F_)
            refine ⟨?_, ?_⟩
            · have hkd : k + 1 ≠ d_ := fun z => hxx (by rw [z]; exact d3 F_ (by omega))
              have := hI60.1
              omega
            · intro i h1 h2
              by_cases e : i = k + 1
              · rw [e]; exact hxx
              · exact hI60.2 i h1 (by omega)
          · show d_ - (k + 1) < d_ - k
            have := hI60.1
            omega
        · skip
          refine V_aload_n (pc := 77) dX11_cycle_77 4 rfl rfl ?_
          refine Mg_carry (pc := 78) (v := (mRn S a_.toNatClampNeg (F_ + (k + 1))).2) rfl dX11_cycle_78 ?_
          refine V_iload (pc := 81) dX11_cycle_81 2 rfl ?_
          refine V_icmp_ne (pc := 83) (tgt := 60) dX11_cycle_83 (by decide) (fun h83 => ?_) (fun h83 => ?_)
          · skip
            have hxx : mRn S a_.toNatClampNeg (F_ + (k + 1)) ≠ mRn S a_.toNatClampNeg F_ := fun z => h83 (congrArg Prod.snd z)
            refine V_sub (L' := [(5, .int (nI (k + 1))), (4, .int (mRn S a_.toNatClampNeg F_).2), (3, .int (mRn S a_.toNatClampNeg F_).1), (0, .ref (Z.2.2.2 99)), (1, .int a_), (2, .int w_)]) [0, 2, 3, 4, 5, 6] rfl ?_
            refine ih60 ((k + 1)) ?_ ?_
            · show ((k + 1)) < d_ ∧ (∀ i, 1 ≤ i → i ≤ ((k + 1)) → mRn S a_.toNatClampNeg (F_ + i) ≠ mRn S a_.toNatClampNeg F_)
              refine ⟨?_, ?_⟩
              · have hkd : k + 1 ≠ d_ := fun z => hxx (by rw [z]; exact d3 F_ (by omega))
                have := hI60.1
                omega
              · intro i h1 h2
                by_cases e : i = k + 1
                · rw [e]; exact hxx
                · exact hI60.2 i h1 (by omega)
            · show d_ - (k + 1) < d_ - k
              have := hI60.1
              omega
          · skip
            have heq : mRn S a_.toNatClampNeg (F_ + (k + 1)) = mRn S a_.toNatClampNeg F_ := Prod.ext h74 h83
            have hret : retQ (mSt1 S a_.toNatClampNeg) (mSt0 S a_.toNatClampNeg) F_ (k + 1) := ⟨by omega, heq, fun i h1 h2 => hI60.2 i h1 (by omega)⟩
            have hk5 := hI60.1
            refine V_iload_n (pc := 86) dX11_cycle_86 6 rfl rfl ?_
            refine V_if_ne (pc := 87) (tgt := 93) dX11_cycle_87 (by decide) (fun h87 => ?_) (fun h87 => ?_)
            · skip
              refine V_iconst (v := 0) (pc := 93) dX11_cycle_93 (by decide) ?_
              refine V_istore (pc := 94) (L2 := [(5, .int (nI (k + 1))), (4, .int (mRn S a_.toNatClampNeg F_).2), (3, .int (mRn S a_.toNatClampNeg F_).1), (0, .ref (Z.2.2.2 99)), (1, .int a_), (2, .int w_)]) dX11_cycle_94 (by decide) rfl (fun x6_94 ex6_94 => ?_)
              subst ex6_94
              refine V_sub (L' := [(6, .int (nI 0)), (5, .int (nI (k + 1))), (4, .int (mRn S a_.toNatClampNeg F_).2), (3, .int (mRn S a_.toNatClampNeg F_).1), (0, .ref (Z.2.2.2 99)), (1, .int a_), (2, .int w_)]) [0, 1, 2, 3, 4, 5, 6] rfl ?_
              refine Vloop (σ := Nat × Nat) (fun x => (x.2) ≤ F_ ∧ ∀ i, i < (x.2) → mRn S a_.toNatClampNeg (i + (k + 1)) ≠ mRn S a_.toNatClampNeg i) (fun x => F_ - (x.2)) (fun x => V MW Z cX11_cycle RX11 7 (some .int) 4 0 0 B 0 0 96 [(6, .int (nI (x.2))), (5, .int (nI (k + 1))), (4, .int (mRn S a_.toNatClampNeg F_).2), (3, .int (mRn S a_.toNatClampNeg F_).1), (0, .ref (Z.2.2.2 99)), (1, .int a_), (2, .int w_)] [] (mThN S a_.toNatClampNeg (x.1))) ?_ ((F_ + (k + 1)), 0) (by exact ⟨Nat.zero_le _, fun i hi => absurd hi (Nat.not_lt_zero _)⟩)
              rintro ⟨gk, x_⟩ hI96 ih96
              have hI96 : x_ ≤ F_ ∧ ∀ i, i < x_ → mRn S a_.toNatClampNeg (i + (k + 1)) ≠ mRn S a_.toNatClampNeg i := hI96
              show V MW Z cX11_cycle RX11 7 (some .int) 4 0 0 B 0 0 96 [(6, .int (nI x_)), (5, .int (nI (k + 1))), (4, .int (mRn S a_.toNatClampNeg F_).2), (3, .int (mRn S a_.toNatClampNeg F_).1), (0, .ref (Z.2.2.2 99)), (1, .int a_), (2, .int w_)] [] (mThN S a_.toNatClampNeg gk)
              refine V_aload_n (pc := 96) dX11_cycle_96 4 rfl rfl ?_
              refine V_iload_n (pc := 97) dX11_cycle_97 5 rfl rfl ?_
              refine V_iload (pc := 98) dX11_cycle_98 0 rfl ?_
              refine V_iload (pc := 100) dX11_cycle_100 1 rfl ?_
              refine McVi (pc := 102) dX11_cycle_102 (cM_isAgain Z _ x_ (k + 1) _ (by exact inMach hm h5) (by have := hI96.1; omega) (by omega)) kM_220 rfl rfl (Nat.le_of_ble_eq_true rfl) (by decide) (by decide) ?_
              refine V_eqS (mThN S a_.toNatClampNeg (x_ + (k + 1))) (mThN_mThN S _ _ _) ?_
              refine V_bif_ne (pc := 105) (tgt := 114) dX11_cycle_105 (by decide) (fun h105 => ?_) (fun h105 => ?_)
              · skip
                have h105 : mRn S a_.toNatClampNeg (x_ + (k + 1)) = mRn S a_.toNatClampNeg x_ := h105
                refine V_iload (pc := 114) dX11_cycle_114 0 rfl ?_
                exact V_iret (pc := 116) dX11_cycle_116 (Nat.le_of_ble_eq_true rfl) (Nat.le_of_ble_eq_true rfl) (hB _ _ (by exact ⟨Or.inr ⟨⟨h5, h14⟩, _, rfl, k + 1, ⟨F_, hret⟩, Or.inr ⟨h87, x_, ⟨h105, hI96.2⟩, rfl⟩⟩, mCor_thN S _ _⟩))
              · skip
                have h105 : ¬ mRn S a_.toNatClampNeg (x_ + (k + 1)) = mRn S a_.toNatClampNeg x_ := h105
                refine V_iinc (pc := 108) (v := 1) (L2 := [(5, .int (nI (k + 1))), (4, .int (mRn S a_.toNatClampNeg F_).2), (3, .int (mRn S a_.toNatClampNeg F_).1), (0, .ref (Z.2.2.2 99)), (1, .int a_), (2, .int w_)]) dX11_cycle_108 0 rfl (by decide) (by decide) rfl (fun x6_108 ex6_108 => ?_)
                rw [nI_1] at ex6_108
                subst ex6_108
                refine V_goto (pc := 111) (tgt := 96) dX11_cycle_111 (by decide) ?_
                refine V_sub (L' := [(6, .int (nI (x_ + 1))), (5, .int (nI (k + 1))), (4, .int (mRn S a_.toNatClampNeg F_).2), (3, .int (mRn S a_.toNatClampNeg F_).1), (0, .ref (Z.2.2.2 99)), (1, .int a_), (2, .int w_)]) [0, 1, 2, 3, 4, 5, 6] rfl ?_
                refine ih96 (_, ((x_ + 1))) ?_ ?_
                · have hne : x_ ≠ F_ := fun z => h105 (by rw [z]; exact heq)
                  refine ⟨by have := hI96.1; omega, fun i hi => ?_⟩
                  by_cases e : i = x_
                  · rw [e]; exact h105
                  · exact hI96.2 i (by have : i < x_ + 1 := hi; omega)
                · show F_ - (x_ + 1) < F_ - x_
                  have hne : x_ ≠ F_ := fun z => h105 (by rw [z]; exact heq)
                  have := hI96.1
                  omega
            · skip
              refine V_iload (pc := 90) dX11_cycle_90 0 rfl ?_
              exact V_iret (pc := 92) dX11_cycle_92 (Nat.le_of_ble_eq_true rfl) (Nat.le_of_ble_eq_true rfl) (hB _ _ (by exact ⟨Or.inr ⟨⟨h5, h14⟩, _, rfl, k + 1, ⟨F_, hret⟩, Or.inl ⟨h87, rfl⟩⟩, mCor_thN S _ _⟩))
      · skip
        have hj : j < F_ := Nat.not_le.mp fun q => h31 (by rw [show (10000 : Int32) = nI F_ by rw [eF]; rfl]; exact nI_le q (by omega))
        refine V_aload_n (pc := 34) dX11_cycle_34 1 rfl rfl ?_
        refine McVi (pc := 35) dX11_cycle_35 (cM_steps Z _ _ _ _ _ _) kM_144 rfl rfl (Nat.le_of_ble_eq_true rfl) (by decide) (by decide) ?_
        refine V_istore (pc := 38) (L2 := [(3, .int (nI j)), (0, .ref (Z.2.2.2 99)), (1, .int a_), (2, .int w_)]) dX11_cycle_38 (by decide) rfl (fun x4_38 ex4_38 => ?_)
        refine V_iinc (pc := 40) (v := 1) (L2 := [(4, .int x4_38), (0, .ref (Z.2.2.2 99)), (1, .int a_), (2, .int w_)]) dX11_cycle_40 1 rfl (by decide) (by decide) rfl (fun x3_40 ex3_40 => ?_)
        rw [nI_1] at ex3_40
        subst ex3_40
        refine V_goto (pc := 43) (tgt := 27) dX11_cycle_43 (by decide) ?_
        refine V_sub (L' := [(3, .int (nI (j + 1))), (0, .ref (Z.2.2.2 99)), (1, .int a_), (2, .int w_)]) [0, 2, 3, 4] rfl ?_
        refine ih27 ((j + 1)) ?_ ?_
        · show ((j + 1)) ≤ F_
          exact hj
        · show F_ - (j + 1) < F_ - j
          omega
    · skip
      refine V_bipush (v := (-2)) (pc := 17) dX11_cycle_17 (by decide) ?_
      exact V_iret (pc := 19) dX11_cycle_19 (Nat.le_of_ble_eq_true rfl) (Nat.le_of_ble_eq_true rfl) (hB _ _ (by first | exact ⟨Or.inl ⟨fun h => h5 h.1, rfl⟩, mCor_rfl S⟩ | exact ⟨Or.inl ⟨fun h => h14 h.2, rfl⟩, mCor_rfl S⟩))
