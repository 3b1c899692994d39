set_option maxHeartbeats 4000000 in
set_option maxRecDepth 100000 in
theorem c_X10_chance (Z : VZ) (S : XS) (a_ : Int32) (z_ : Int32) (m_ : Int32) (n_ : Int32) (k_ : Int32) (p_ : Int32) (hz : zOK S) : Ct XW Z yX10_chance cX10_chance 10 (some .int) 2 0 0 [.ref (Z.2.2.2 99), .int a_, .int z_, .int m_, .int n_, .int k_, .int p_] (S) (fun v S' => v = some (.int (if ((0 ≤ a_ ∧ a_ ≤ 3) ∧ (1 ≤ m_ ∧ m_ ≤ 20) ∧ (0 ≤ n_ ∧ n_ ≤ 8) ∧ (0 ≤ k_ ∧ k_ ≤ 40) ∧ (0 ≤ p_ ∧ p_ ≤ 1)) then (if (S.1 (10 + a_.toNatClampNeg) = -1) then -11 else if (S.1 (20 + a_.toNatClampNeg)) < 1 then -3 else (ltX (lN (chN (btL (S.2.2.1 (20 + a_.toNatClampNeg)) (S.1 (20 + a_.toNatClampNeg)).toNatClampNeg) z_ (S.1 (20 + a_.toNatClampNeg)).toNatClampNeg n_.toNatClampNeg k_ m_.toNatClampNeg)) m_.toNatClampNeg p_).toInt32) else -2)) ∧ xCor S S') := by
  refine V_entry (own := RX10) (by decide) rfl (Nat.le_of_ble_eq_true rfl) ?_
  intro B hB
  refine V_sub (L' := [(0, .ref (Z.2.2.2 99)), (1, .int a_), (2, .int z_), (3, .int m_), (4, .int n_), (5, .int k_), (6, .int p_)]) [0, 1, 2, 3, 4, 5, 6] rfl ?_
  refine V_aload_n (pc := 0) dX10_chance_0 0 rfl rfl ?_
  refine V_iload_n (pc := 1) dX10_chance_1 1 rfl rfl ?_
  refine V_callV (q0 := 0) (ci := 10) (C := RX10) (T := TX10) (N := 9) (pc := 2) dX10_chance_2 (c_X10_sheetAt Z _ _) kX10_118 rfl rfl rfl rfl (Nat.le_of_ble_eq_true rfl) (by decide) (by decide) (Nat.le_of_ble_eq_true rfl) (Nat.le_of_ble_eq_true rfl) (fun v2 S2 hp2 => ?_)
  refine V_widen (n' := 0) (k' := 0) (Nat.le_refl _) (Nat.le_refl _) ?_
  obtain ⟨rfl, ⟨hv2, hs2, hi2, rfl⟩ | ⟨hno2, rfl⟩⟩ := hp2
  · skip
    refine V_astore (pc := 5) (L2 := [(0, .ref (Z.2.2.2 99)), (1, .int a_), (2, .int z_), (3, .int m_), (4, .int n_), (5, .int k_), (6, .int p_)]) dX10_chance_5 (by decide) rfl (fun x7_5 ex7_5 => ?_)
    subst ex7_5
    refine V_aload (pc := 7) dX10_chance_7 0 rfl ?_
    refine V_ifnull (pc := 9) dX10_chance_9 ?_
    refine V_iload_n (pc := 12) dX10_chance_12 4 rfl rfl ?_
    refine V_iconst (v := 1) (pc := 13) dX10_chance_13 (by decide) ?_
    refine V_bipush (v := 20) (pc := 14) dX10_chance_14 (by decide) ?_
    refine V_callSi (pc := 16) dX10_chance_16 (c_X10_between Z _ _ _ _) kX10_60 rfl (Nat.le_of_ble_eq_true rfl) (by decide) (by decide) (Nat.le_of_ble_eq_true rfl) (Nat.le_of_ble_eq_true rfl) ?_
    refine V_bif_eq (pc := 19) (tgt := 54) dX10_chance_19 (by decide) (fun h19 => ?_) (fun h19 => ?_)
    · skip
      refine V_bipush (v := (-2)) (pc := 54) dX10_chance_54 (by decide) ?_
      exact V_iret (pc := 56) dX10_chance_56 (Nat.le_of_ble_eq_true rfl) (Nat.le_of_ble_eq_true rfl) (hB _ _ ⟨congrArg (fun z => some (Value.int z)) (by first | exact (if_neg (fun h => hno2 h.1)).symm | exact (if_neg (fun h => h19 h.2.1)).symm | exact (if_neg (fun h => h30 h.2.2.1)).symm | exact (if_neg (fun h => h41 h.2.2.2.1)).symm | exact (if_neg (fun h => h51 h.2.2.2.2)).symm), by exact xCor_rfl _⟩)
    · skip
      refine V_iload (pc := 22) dX10_chance_22 5 rfl ?_
      refine V_iconst (v := 0) (pc := 24) dX10_chance_24 (by decide) ?_
      refine V_bipush (v := 8) (pc := 25) dX10_chance_25 (by decide) ?_
      refine V_callSi (pc := 27) dX10_chance_27 (c_X10_between Z _ _ _ _) kX10_60 rfl (Nat.le_of_ble_eq_true rfl) (by decide) (by decide) (Nat.le_of_ble_eq_true rfl) (Nat.le_of_ble_eq_true rfl) ?_
      refine V_bif_eq (pc := 30) (tgt := 54) dX10_chance_30 (by decide) (fun h30 => ?_) (fun h30 => ?_)
      · skip
        refine V_bipush (v := (-2)) (pc := 54) dX10_chance_54 (by decide) ?_
        exact V_iret (pc := 56) dX10_chance_56 (Nat.le_of_ble_eq_true rfl) (Nat.le_of_ble_eq_true rfl) (hB _ _ ⟨congrArg (fun z => some (Value.int z)) (by first | exact (if_neg (fun h => hno2 h.1)).symm | exact (if_neg (fun h => h19 h.2.1)).symm | exact (if_neg (fun h => h30 h.2.2.1)).symm | exact (if_neg (fun h => h41 h.2.2.2.1)).symm | exact (if_neg (fun h => h51 h.2.2.2.2)).symm), by exact xCor_rfl _⟩)
      · skip
        refine V_iload (pc := 33) dX10_chance_33 6 rfl ?_
        refine V_iconst (v := 0) (pc := 35) dX10_chance_35 (by decide) ?_
        refine V_bipush (v := 40) (pc := 36) dX10_chance_36 (by decide) ?_
        refine V_callSi (pc := 38) dX10_chance_38 (c_X10_between Z _ _ _ _) kX10_60 rfl (Nat.le_of_ble_eq_true rfl) (by decide) (by decide) (Nat.le_of_ble_eq_true rfl) (Nat.le_of_ble_eq_true rfl) ?_
        refine V_bif_eq (pc := 41) (tgt := 54) dX10_chance_41 (by decide) (fun h41 => ?_) (fun h41 => ?_)
        · skip
          refine V_bipush (v := (-2)) (pc := 54) dX10_chance_54 (by decide) ?_
          exact V_iret (pc := 56) dX10_chance_56 (Nat.le_of_ble_eq_true rfl) (Nat.le_of_ble_eq_true rfl) (hB _ _ ⟨congrArg (fun z => some (Value.int z)) (by first | exact (if_neg (fun h => hno2 h.1)).symm | exact (if_neg (fun h => h19 h.2.1)).symm | exact (if_neg (fun h => h30 h.2.2.1)).symm | exact (if_neg (fun h => h41 h.2.2.2.1)).symm | exact (if_neg (fun h => h51 h.2.2.2.2)).symm), by exact xCor_rfl _⟩)
        · skip
          refine V_iload (pc := 44) dX10_chance_44 7 rfl ?_
          refine V_iconst (v := 0) (pc := 46) dX10_chance_46 (by decide) ?_
          refine V_iconst (v := 1) (pc := 47) dX10_chance_47 (by decide) ?_
          refine V_callSi (pc := 48) dX10_chance_48 (c_X10_between Z _ _ _ _) kX10_60 rfl (Nat.le_of_ble_eq_true rfl) (by decide) (by decide) (Nat.le_of_ble_eq_true rfl) (Nat.le_of_ble_eq_true rfl) ?_
          refine V_bif_ne (pc := 51) (tgt := 57) dX10_chance_51 (by decide) (fun h51 => ?_) (fun h51 => ?_)
          · skip
            refine V_aload (pc := 57) dX10_chance_57 0 rfl ?_
            refine V_callVi (ci := 8) (C := RX8) (T := TX8) (N := 3) (pc := 59) dX10_chance_59 (c_X8_isMissing Z _ _ (by exact hs2)) kX10_134 (x_sh Z _ (by exact hs2)) rfl rfl rfl (Nat.le_of_ble_eq_true rfl) (by decide) (by decide) (Nat.le_of_ble_eq_true rfl) (Nat.le_of_ble_eq_true rfl) ?_
            refine V_bif_eq (pc := 62) (tgt := 68) dX10_chance_62 (by decide) (fun h62 => ?_) (fun h62 => ?_)
            · skip
              obtain ⟨l_, hl_, el_⟩ := hz _ hs2
              have ec_ : (S.1 (20 + a_.toNatClampNeg)).toNatClampNeg = l_ := by rw [el_, nI_clamp (by omega)]
              obtain ⟨m0, hm0, em0⟩ := nI_of2 (n := 20) rfl (Int32.not_lt.mpr (Int32.le_trans (by decide) h19.1)) h19.2
              have emm : m_.toNatClampNeg = m0 := by rw [em0, nI_clamp (by omega)]
              refine V_aload (pc := 68) dX10_chance_68 0 rfl ?_
              refine Xg_X10_161 (pc := 70) (v := (nI l_)) (by exact hs2) el_ dX10_chance_70 ?_
              refine V_iconst (v := 1) (pc := 73) dX10_chance_73 (by decide) ?_
              refine V_icmp_ge (pc := 74) (tgt := 80) dX10_chance_74 (by decide) (fun h74 => ?_) (fun h74 => ?_)
              · skip
                have hl0 : 0 < l_ := by
                  rcases Nat.eq_zero_or_pos l_ with z | z
                  · rw [z] at h74; exact absurd h74 (by decide)
                  · exact z
                have hm1 : 0 < m0 := by
                  rcases Nat.eq_zero_or_pos m0 with z | z
                  · rw [em0, z] at h19; exact absurd h19.1 (by decide)
                  · exact z
                refine V_iconst (v := 0) (pc := 80) dX10_chance_80 (by decide) ?_
                refine V_istore (pc := 81) (L2 := [(7, .ref (Z.2.2.2 (10 + (a_).toNatClampNeg))), (0, .ref (Z.2.2.2 99)), (1, .int a_), (2, .int z_), (3, .int m_), (4, .int n_), (5, .int k_), (6, .int p_)]) dX10_chance_81 (by decide) rfl (fun x8_81 ex8_81 => ?_)
                subst ex8_81
                refine V_iconst (v := 0) (pc := 83) dX10_chance_83 (by decide) ?_
                refine V_istore (pc := 84) (L2 := [(8, .int 0), (7, .ref (Z.2.2.2 (10 + (a_).toNatClampNeg))), (0, .ref (Z.2.2.2 99)), (1, .int a_), (2, .int z_), (3, .int m_), (4, .int n_), (5, .int k_), (6, .int p_)]) dX10_chance_84 (by decide) rfl (fun x9_84 ex9_84 => ?_)
                subst ex9_84
                refine V_eqS _ (xLw_self S) ?_
                refine V_sub (L' := [(9, .int (nI 0)), (8, .int (nI 0)), (7, .ref (Z.2.2.2 (10 + (a_).toNatClampNeg))), (0, .ref (Z.2.2.2 99)), (1, .int a_), (2, .int z_), (3, .int m_), (4, .int n_), (5, .int k_), (6, .int p_)]) [0, 1, 2, 3, 4, 5, 6, 7, 8, 9] rfl ?_
                refine Vloop (σ := Int32 × Int64 × Nat × Nat) (fun x => (x.2.2.2) ≤ m_.toNatClampNeg ∧ (x.2.2.1) = chN (btL (S.2.2.1 (20 + a_.toNatClampNeg)) l_) z_ l_ n_.toNatClampNeg k_ (x.2.2.2)) (fun x => m_.toNatClampNeg - (x.2.2.2)) (fun x => V XW Z cX10_chance RX10 10 (some .int) 2 0 0 B 0 0 86 [(9, .int (nI (x.2.2.2))), (8, .int (nI (x.2.2.1))), (7, .ref (Z.2.2.2 (10 + (a_).toNatClampNeg))), (0, .ref (Z.2.2.2 99)), (1, .int a_), (2, .int z_), (3, .int m_), (4, .int n_), (5, .int k_), (6, .int p_)] [] (xLw S (x.1) (x.2.1))) ?_ (S.1 40, S.2.1 6, 0, 0) (by exact ⟨Nat.zero_le _, rfl⟩)
                rintro ⟨gc, gt, u, j⟩ hI86 ih86
                have hI86 : j ≤ m_.toNatClampNeg ∧ u = chN (btL (S.2.2.1 (20 + a_.toNatClampNeg)) l_) z_ l_ n_.toNatClampNeg k_ j := hI86
                show V XW Z cX10_chance RX10 10 (some .int) 2 0 0 B 0 0 86 [(9, .int (nI j)), (8, .int (nI u)), (7, .ref (Z.2.2.2 (10 + (a_).toNatClampNeg))), (0, .ref (Z.2.2.2 99)), (1, .int a_), (2, .int z_), (3, .int m_), (4, .int n_), (5, .int k_), (6, .int p_)] [] (xLw S gc gt)
                refine V_iload (pc := 86) dX10_chance_86 0 rfl ?_
                refine V_iload_n (pc := 88) dX10_chance_88 6 rfl rfl ?_
                refine V_icmp_ge (pc := 89) (tgt := 144) dX10_chance_89 (by decide) (fun h89 => ?_) (fun h89 => ?_)
                · skip
                  have hj : m_.toNatClampNeg ≤ j := jge h89 (by omega)
                  have ej : j = m_.toNatClampNeg := Nat.le_antisymm hI86.1 hj
                  have hu20 : u ≤ 20 := by
                    have := chN_le (btL (S.2.2.1 (20 + a_.toNatClampNeg)) l_) z_ l_ n_.toNatClampNeg k_ j
                    rw [← hI86.2] at this
                    omega
                  refine V_iload (pc := 144) dX10_chance_144 1 rfl ?_
                  refine V_i2l (pc := 146) dX10_chance_146 rfl ?_
                  refine V_eql (lN u) (nI_l (by omega)) ?_
                  refine V_iload_n (pc := 147) dX10_chance_147 6 rfl rfl ?_
                  refine V_i2l (pc := 148) dX10_chance_148 rfl ?_
                  refine V_eql (lN m0) (by rw [em0, nI_l (by omega)]) ?_
                  refine V_iload (pc := 149) dX10_chance_149 9 rfl ?_
                  refine V_callSl (pc := 151) dX10_chance_151 (c_X10_inLowestTerms Z _ _ _ _ (by rw [pk_lT (by omega)]; omega) (by exact ⟨hm1, by omega⟩)) kX10_185 rfl (Nat.le_of_ble_eq_true rfl) (by decide) (by decide) (Nat.le_of_ble_eq_true rfl) (Nat.le_of_ble_eq_true rfl) ?_
                  refine V_l2i (pc := 154) dX10_chance_154 rfl ?_
                  exact V_iret (pc := 155) dX10_chance_155 (Nat.le_of_ble_eq_true rfl) (Nat.le_of_ble_eq_true rfl) (hB _ _ ⟨congrArg (fun z => some (Value.int z)) (by rw [if_pos ⟨hi2, h19, h30, h41, h51⟩, if_neg h62, if_neg (by rw [el_]; exact Int32.not_lt.mpr h74), ec_, emm, hI86.2, ej, emm]), by exact xCor_lw _ _ _⟩)
                · skip
                  have hj : j < m_.toNatClampNeg := jlt h89 (by omega)
                  refine V_aload_n (pc := 92) dX10_chance_92 3 rfl rfl ?_
                  refine Xg_X10_51 (pc := 93) dX10_chance_93 ?_
                  refine V_aload (pc := 96) dX10_chance_96 2 rfl ?_
                  refine V_callVl (ci := 8) (C := RX8) (T := TX8) (N := 3) (pc := 98) dX10_chance_98 (c_X8_bits Z _ _ (by exact hs2) (by rw [(lw_ne S gc gt (show 20 + a_.toNatClampNeg ≠ 40 by omega)), ec_]; exact hl_)) kX10_140 (x_sh Z _ (by exact hs2)) rfl rfl rfl (Nat.le_of_ble_eq_true rfl) (by decide) (by decide) (Nat.le_of_ble_eq_true rfl) (Nat.le_of_ble_eq_true rfl) ?_
                  refine V_eql (btL (S.2.2.1 (20 + a_.toNatClampNeg)) l_) (by rw [(lw_ne S gc gt (show 20 + a_.toNatClampNeg ≠ 40 by omega)), ec_]; rfl) ?_
                  refine V_aload (pc := 101) dX10_chance_101 2 rfl ?_
                  refine Xg_X10_161 (pc := 103) (v := (nI l_)) (by exact hs2) ((lw_ne S gc gt (show 20 + a_.toNatClampNeg ≠ 40 by omega)).trans el_) dX10_chance_103 ?_
                  refine V_iload_n (pc := 106) dX10_chance_106 5 rfl rfl ?_
                  refine V_iload (pc := 107) dX10_chance_107 0 rfl ?_
                  refine V_iadd (pc := 109) dX10_chance_109 ?_
                  refine V_iload (pc := 110) dX10_chance_110 7 rfl ?_
                  refine V_callSl (pc := 112) dX10_chance_112 (c_X10_spoilt Z _ _ _ _ _ (by exact ⟨hl0, hl_⟩)) kX10_228 rfl (Nat.le_of_ble_eq_true rfl) (by decide) (by decide) (Nat.le_of_ble_eq_true rfl) (Nat.le_of_ble_eq_true rfl) ?_
                  refine V_aload (pc := 115) dX10_chance_115 2 rfl ?_
                  refine Xg_X10_161 (pc := 117) (v := (nI l_)) (by exact hs2) ((lw_ne S gc gt (show 20 + a_.toNatClampNeg ≠ 40 by omega)).trans el_) dX10_chance_117 ?_
                  refine V_callVv (q0 := 18) (ci := 3) (C := RX3) (T := TX3) (N := 2) (pc := 120) dX10_chance_120 (c_X3_find Z _ _ _) kX10_202 rfl rfl rfl rfl (Nat.le_of_ble_eq_true rfl) (by decide) (by decide) (Nat.le_of_ble_eq_true rfl) (Nat.le_of_ble_eq_true rfl) ?_
                  refine V_eqS (xLw S (lfX (slX (btL (S.2.2.1 (20 + a_.toNatClampNeg)) l_) (z_ + nI j) l_ n_.toNatClampNeg) l_).2.2.2.2 (us64 (lfX (slX (btL (S.2.2.1 (20 + a_.toNatClampNeg)) l_) (z_ + nI j) l_ n_.toNatClampNeg) l_).1 1)) (by rw [nI_clamp (by omega)]; exact xLw_lw S _ _ _ _) ?_
                  refine V_aload_n (pc := 123) dX10_chance_123 3 rfl rfl ?_
                  refine Xg_X10_51 (pc := 124) dX10_chance_124 ?_
                  refine Xg_X10_203 (pc := 127) (v := (lfX (slX (btL (S.2.2.1 (20 + a_.toNatClampNeg)) l_) (z_ + nI j) l_ n_.toNatClampNeg) l_).2.2.2.2) (va_up_self S.1 40 _) dX10_chance_127 ?_
                  refine V_iload (pc := 130) dX10_chance_130 8 rfl ?_
                  refine V_icmp_gt (pc := 132) (tgt := 138) dX10_chance_132 (by decide) (fun h132 => ?_) (fun h132 => ?_)
                  · skip
                    refine V_iinc (pc := 138) (v := 1) (L2 := [(8, .int (nI u)), (7, .ref (Z.2.2.2 (10 + (a_).toNatClampNeg))), (0, .ref (Z.2.2.2 99)), (1, .int a_), (2, .int z_), (3, .int m_), (4, .int n_), (5, .int k_), (6, .int p_)]) dX10_chance_138 0 rfl (by decide) (by decide) rfl (fun x9_138 ex9_138 => ?_)
                    rw [nI_1] at ex9_138
                    subst ex9_138
                    refine V_goto (pc := 141) (tgt := 86) dX10_chance_141 (by decide) ?_
                    refine V_sub (L' := [(9, .int (nI (j + 1))), (8, .int (nI u)), (7, .ref (Z.2.2.2 (10 + (a_).toNatClampNeg))), (0, .ref (Z.2.2.2 99)), (1, .int a_), (2, .int z_), (3, .int m_), (4, .int n_), (5, .int k_), (6, .int p_)]) [0, 1, 2, 3, 4, 5, 6, 7, 8, 9] rfl ?_
                    refine ih86 (_, _, (u), ((j + 1))) ?_ ?_
                    · refine ⟨hj, ?_⟩
                      show _ = chN (btL (S.2.2.1 (20 + a_.toNatClampNeg)) l_) z_ l_ n_.toNatClampNeg k_ (j + 1)
                      rw [hI86.2]
                      first | exact (if_pos h132).symm | exact (if_neg h132).symm
                    · show m_.toNatClampNeg - (j + 1) < m_.toNatClampNeg - j
                      omega
                  · skip
                    refine V_iinc (pc := 135) (v := 1) (L2 := [(9, .int (nI j)), (7, .ref (Z.2.2.2 (10 + (a_).toNatClampNeg))), (0, .ref (Z.2.2.2 99)), (1, .int a_), (2, .int z_), (3, .int m_), (4, .int n_), (5, .int k_), (6, .int p_)]) dX10_chance_135 1 rfl (by decide) (by decide) rfl (fun x8_135 ex8_135 => ?_)
                    rw [nI_1] at ex8_135
                    subst ex8_135
                    refine V_iinc (pc := 138) (v := 1) (L2 := [(8, .int (nI (u + 1))), (7, .ref (Z.2.2.2 (10 + (a_).toNatClampNeg))), (0, .ref (Z.2.2.2 99)), (1, .int a_), (2, .int z_), (3, .int m_), (4, .int n_), (5, .int k_), (6, .int p_)]) dX10_chance_138 1 rfl (by decide) (by decide) rfl (fun x9_138 ex9_138 => ?_)
                    rw [nI_1] at ex9_138
                    subst ex9_138
                    refine V_goto (pc := 141) (tgt := 86) dX10_chance_141 (by decide) ?_
                    refine V_sub (L' := [(9, .int (nI (j + 1))), (8, .int (nI (u + 1))), (7, .ref (Z.2.2.2 (10 + (a_).toNatClampNeg))), (0, .ref (Z.2.2.2 99)), (1, .int a_), (2, .int z_), (3, .int m_), (4, .int n_), (5, .int k_), (6, .int p_)]) [0, 1, 2, 3, 4, 5, 6, 7, 8, 9] rfl ?_
                    refine ih86 (_, _, ((u + 1)), ((j + 1))) ?_ ?_
                    · refine ⟨hj, ?_⟩
                      show _ = chN (btL (S.2.2.1 (20 + a_.toNatClampNeg)) l_) z_ l_ n_.toNatClampNeg k_ (j + 1)
                      rw [hI86.2]
                      first | exact (if_pos h132).symm | exact (if_neg h132).symm
                    · show m_.toNatClampNeg - (j + 1) < m_.toNatClampNeg - j
                      omega
              · skip
                refine V_bipush (v := (-3)) (pc := 77) dX10_chance_77 (by decide) ?_
                exact V_iret (pc := 79) dX10_chance_79 (Nat.le_of_ble_eq_true rfl) (Nat.le_of_ble_eq_true rfl) (hB _ _ ⟨congrArg (fun z => some (Value.int z)) (by rw [if_pos ⟨hi2, h19, h30, h41, h51⟩, if_neg h62, if_pos (by rw [el_]; exact Int32.not_le.mp h74)]), by exact xCor_rfl _⟩)
            · skip
              refine V_bipush (v := (-11)) (pc := 65) dX10_chance_65 (by decide) ?_
              exact V_iret (pc := 67) dX10_chance_67 (Nat.le_of_ble_eq_true rfl) (Nat.le_of_ble_eq_true rfl) (hB _ _ ⟨congrArg (fun z => some (Value.int z)) (by rw [if_pos ⟨hi2, h19, h30, h41, h51⟩, if_pos h62]), by exact xCor_rfl _⟩)
          · skip
            refine V_bipush (v := (-2)) (pc := 54) dX10_chance_54 (by decide) ?_
            exact V_iret (pc := 56) dX10_chance_56 (Nat.le_of_ble_eq_true rfl) (Nat.le_of_ble_eq_true rfl) (hB _ _ ⟨congrArg (fun z => some (Value.int z)) (by first | exact (if_neg (fun h => hno2 h.1)).symm | exact (if_neg (fun h => h19 h.2.1)).symm | exact (if_neg (fun h => h30 h.2.2.1)).symm | exact (if_neg (fun h => h41 h.2.2.2.1)).symm | exact (if_neg (fun h => h51 h.2.2.2.2)).symm), by exact xCor_rfl _⟩)
  · skip
    refine V_astoreN (L2 := [(0, .ref (Z.2.2.2 99)), (1, .int a_), (2, .int z_), (3, .int m_), (4, .int n_), (5, .int k_), (6, .int p_)]) (pc := 5) dX10_chance_5  (by decide) rfl ?_
    refine V_aloadN (pc := 7) dX10_chance_7 0 rfl ?_
    refine V_ifnullN (pc := 9) (tgt := 54) dX10_chance_9 (by decide) ?_
    refine V_bipush (v := (-2)) (pc := 54) dX10_chance_54 (by decide) ?_
    exact V_iret (pc := 56) dX10_chance_56 (Nat.le_of_ble_eq_true rfl) (Nat.le_of_ble_eq_true rfl) (hB _ _ ⟨congrArg (fun z => some (Value.int z)) (by first | exact (if_neg (fun h => hno2 h.1)).symm | exact (if_neg (fun h => h19 h.2.1)).symm | exact (if_neg (fun h => h30 h.2.2.1)).symm | exact (if_neg (fun h => h41 h.2.2.2.1)).symm | exact (if_neg (fun h => h51 h.2.2.2.2)).symm), by exact xCor_rfl _⟩)
set_option maxHeartbeats 4000000 in
set_option maxRecDepth 100000 in
theorem c_X7_hasRoom (Z : VZ) (S : XS) (n_ : Int32) : CtF XW Z yX7_hasRoom cX7_hasRoom 2 (some .boolean) 0 0 0 [.ref (Z.2.2.2 5), .int n_] (S) (some (.int (bI (S.1 31 + n_ ≤ 60)))) (S) := by
  refine V_entry (own := RX7) (by decide) rfl (Nat.le_of_ble_eq_true rfl) ?_
  intro B hB
  refine V_sub (L' := [(0, .ref (Z.2.2.2 5)), (1, .int n_)]) [0, 1] rfl ?_
  refine V_aload_n (pc := 0) dX7_hasRoom_0 0 rfl rfl ?_
  refine Xg_X7_15 (pc := 1) (v := (S.1 31)) rfl dX7_hasRoom_1 ?_
  refine V_iload_n (pc := 4) dX7_hasRoom_4 1 rfl rfl ?_
  refine V_iadd (pc := 5) dX7_hasRoom_5 ?_
  refine V_aload_n (pc := 6) dX7_hasRoom_6 0 rfl rfl ?_
  refine Xg_X7_11 (pc := 7) dX7_hasRoom_7 ?_
  refine Xn_30 (pc := 10) dX7_hasRoom_10 ?_
  refine V_icmp_gt (pc := 11) (tgt := 18) dX7_hasRoom_11 (by decide) (fun h11 => ?_) (fun h11 => ?_)
  · skip
    refine V_iconst (v := 0) (pc := 18) dX7_hasRoom_18 (by decide) ?_
    exact V_zret (pc := 19) dX7_hasRoom_19 (Nat.le_of_ble_eq_true rfl) (Nat.le_of_ble_eq_true rfl) (Or.inl rfl) (hB _ _ ⟨congrArg (fun z => some (Value.int z)) (by first | exact (bI_t (Int32.not_lt.mp h11)).symm | exact (bI_f (Int32.not_le.mpr h11)).symm), by rfl⟩)
  · skip
    refine V_iconst (v := 1) (pc := 14) dX7_hasRoom_14 (by decide) ?_
    refine V_goto (pc := 15) (tgt := 19) dX7_hasRoom_15 (by decide) ?_
    exact V_zret (pc := 19) dX7_hasRoom_19 (Nat.le_of_ble_eq_true rfl) (Nat.le_of_ble_eq_true rfl) (Or.inr rfl) (hB _ _ ⟨congrArg (fun z => some (Value.int z)) (by first | exact (bI_t (Int32.not_lt.mp h11)).symm | exact (bI_f (Int32.not_le.mpr h11)).symm), by rfl⟩)
def tpOK (S : XS) : Prop := ∃ n : Nat, n ≤ 60 ∧ S.1 31 = nI n
/-- a byte comes to the tape -/
def xAd1 (S : XS) (v : Int32) : XS := xF (xA S 30 (upd (S.2.2.1 30) (S.1 31).toNatClampNeg v)) 31 (S.1 31 + 1)
