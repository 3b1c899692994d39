theorem mxC_cg {f g : Nat → Int64} (h : ∀ i, i < 4 → f i = g i) (e v : Int32) (j : Nat) : mxC f e v j = mxC g e v j :=
  it_cg (fun i _ => congrArg (fun (z : Int32) (c : Int32) => if v = 1 then (z + c) >>> (1 &&& 31) else 0) (ttG_cg h e (nI i))) 0
theorem mxB_cg {f g : Nat → Int64} (h : ∀ i, i < 4 → f i = g i) (e v : Int32) (j : Nat) : mxB f e v j = mxB g e v j := by
  refine it_cg (fun i _ => ?_) 0
  rw [ttG_cg h e (nI i), mxC_cg h e v i]
def alX (f : Nat → Int64) (v : Int64) (j : Nat) : Int32 := it (fun i (b : Int32) => if f i = v then b ||| 1 <<< (nI i &&& 31) else b) j 0
theorem alX_cg {f g : Nat → Int64} {j : Nat} (h : ∀ i, i < j → f i = g i) (v : Int64) : alX f v j = alX g v j :=
  it_cg (fun i hi => congrArg (fun (z : Int64) (b : Int32) => if z = v then b ||| 1 <<< (nI i &&& 31) else b) (h i hi)) 0
theorem xcnt {S : XS} (h : xOK S) : (S.1 1).toNatClampNeg ≤ 4 := by
  obtain ⟨n, hn, e, _⟩ := h
  rw [e, nI_clamp (by omega)]
  exact hn
set_option maxHeartbeats 4000000 in
set_option maxRecDepth 100000 in
theorem c_X10_mix (Z : VZ) (S : XS) (a_ : Int32) (e_ : Int32) (n_ : Int32) (w_ : Int32) (hx : xOK S) : Ct XW Z yX10_mix cX10_mix 11 (some .int) 8 4 24 [.ref (Z.2.2.2 99), .int a_, .int e_, .int n_, .int w_] (S) (fun v S' => v = some (.int (if ((0 ≤ a_ ∧ a_ ≤ 3) ∧ (0 ≤ e_ ∧ e_ ≤ 1 <<< (S.1 1 &&& 31) - 1) ∧ (0 ≤ n_ ∧ n_ ≤ 40) ∧ (0 ≤ w_ ∧ w_ ≤ 1)) then n_ else -2)) ∧ xCor (if ((0 ≤ a_ ∧ a_ ≤ 3) ∧ (0 ≤ e_ ∧ e_ ≤ 1 <<< (S.1 1 &&& 31) - 1) ∧ (0 ≤ n_ ∧ n_ ≤ 40) ∧ (0 ≤ w_ ∧ w_ ≤ 1)) then rowX S a_.toNatClampNeg (mxB (tvX S n_.toNatClampNeg) e_ w_ n_.toNatClampNeg) n_ else S) S') := by
  refine V_entry (own := RX10) (by decide) rfl (Nat.le_of_ble_eq_true rfl) ?_
  intro B hB
  refine V_sub (L' := [(0, .ref (Z.2.2.2 99)), (1, .int a_), (2, .int e_), (3, .int n_), (4, .int w_)]) [0, 1, 2, 3, 4] rfl ?_
  refine V_aload_n (pc := 0) dX10_mix_0 0 rfl rfl ?_
  refine V_iload_n (pc := 1) dX10_mix_1 1 rfl rfl ?_
  refine V_callV (q0 := 0) (ci := 10) (C := RX10) (T := TX10) (N := 9) (pc := 2) dX10_mix_2 (c_X10_sheetAt Z _ _) kX10_118 rfl rfl rfl rfl (Nat.le_of_ble_eq_true rfl) (by decide) (by decide) (Nat.le_of_ble_eq_true rfl) (Nat.le_of_ble_eq_true rfl) (fun v2 S2 hp2 => ?_)
  refine V_widen (n' := 0) (k' := 0) (Nat.le_refl _) (Nat.le_refl _) ?_
  obtain ⟨rfl, ⟨hv2, hs2, hi2, rfl⟩ | ⟨hno2, rfl⟩⟩ := hp2
  · skip
    refine V_astore (pc := 5) (L2 := [(0, .ref (Z.2.2.2 99)), (1, .int a_), (2, .int e_), (3, .int n_), (4, .int w_)]) dX10_mix_5 (by decide) rfl (fun x5_5 ex5_5 => ?_)
    subst ex5_5
    refine V_aload (pc := 7) dX10_mix_7 0 rfl ?_
    refine V_ifnull (pc := 9) dX10_mix_9 ?_
    refine V_iload_n (pc := 12) dX10_mix_12 3 rfl rfl ?_
    refine V_iconst (v := 0) (pc := 13) dX10_mix_13 (by decide) ?_
    refine V_iconst (v := 1) (pc := 14) dX10_mix_14 (by decide) ?_
    refine V_aload_n (pc := 15) dX10_mix_15 1 rfl rfl ?_
    refine Xg_X10_17 (pc := 16) (v := (S.1 1)) rfl dX10_mix_16 ?_
    refine V_ishl (pc := 19) dX10_mix_19 ?_
    refine V_iconst (v := 1) (pc := 20) dX10_mix_20 (by decide) ?_
    refine V_isub (pc := 21) dX10_mix_21 ?_
    refine V_callSi (pc := 22) dX10_mix_22 (c_X10_between Z _ _ _ _) kX10_60 rfl (Nat.le_of_ble_eq_true rfl) (by decide) (by decide) (Nat.le_of_ble_eq_true rfl) (Nat.le_of_ble_eq_true rfl) ?_
    refine V_bif_eq (pc := 25) (tgt := 48) dX10_mix_25 (by decide) (fun h25 => ?_) (fun h25 => ?_)
    · skip
      refine V_bipush (v := (-2)) (pc := 48) dX10_mix_48 (by decide) ?_
      exact V_iret (pc := 50) dX10_mix_50 (Nat.le_of_ble_eq_true rfl) (Nat.le_of_ble_eq_true rfl) (hB _ _ ⟨congrArg (fun z => some (Value.int z)) (by first | exact (if_neg (fun h => hno2 h.1)).symm | exact (if_neg (fun h => h25 h.2.1)).symm | exact (if_neg (fun h => h35 h.2.2.1)).symm | exact (if_neg (fun h => h45 h.2.2.2)).symm), by first | (rw [if_neg (fun h => hno2 h.1)]; exact xCor_rfl _) | (rw [if_neg (fun h => h25 h.2.1)]; exact xCor_rfl _) | (rw [if_neg (fun h => h35 h.2.2.1)]; exact xCor_rfl _) | (rw [if_neg (fun h => h45 h.2.2.2)]; exact xCor_rfl _)⟩)
    · skip
      refine V_iload_n (pc := 28) dX10_mix_28 4 rfl rfl ?_
      refine V_iconst (v := 0) (pc := 29) dX10_mix_29 (by decide) ?_
      refine V_bipush (v := 40) (pc := 30) dX10_mix_30 (by decide) ?_
      refine V_callSi (pc := 32) dX10_mix_32 (c_X10_between Z _ _ _ _) kX10_60 rfl (Nat.le_of_ble_eq_true rfl) (by decide) (by decide) (Nat.le_of_ble_eq_true rfl) (Nat.le_of_ble_eq_true rfl) ?_
      refine V_bif_eq (pc := 35) (tgt := 48) dX10_mix_35 (by decide) (fun h35 => ?_) (fun h35 => ?_)
      · skip
        refine V_bipush (v := (-2)) (pc := 48) dX10_mix_48 (by decide) ?_
        exact V_iret (pc := 50) dX10_mix_50 (Nat.le_of_ble_eq_true rfl) (Nat.le_of_ble_eq_true rfl) (hB _ _ ⟨congrArg (fun z => some (Value.int z)) (by first | exact (if_neg (fun h => hno2 h.1)).symm | exact (if_neg (fun h => h25 h.2.1)).symm | exact (if_neg (fun h => h35 h.2.2.1)).symm | exact (if_neg (fun h => h45 h.2.2.2)).symm), by first | (rw [if_neg (fun h => hno2 h.1)]; exact xCor_rfl _) | (rw [if_neg (fun h => h25 h.2.1)]; exact xCor_rfl _) | (rw [if_neg (fun h => h35 h.2.2.1)]; exact xCor_rfl _) | (rw [if_neg (fun h => h45 h.2.2.2)]; exact xCor_rfl _)⟩)
      · skip
        refine V_iload (pc := 38) dX10_mix_38 5 rfl ?_
        refine V_iconst (v := 0) (pc := 40) dX10_mix_40 (by decide) ?_
        refine V_iconst (v := 1) (pc := 41) dX10_mix_41 (by decide) ?_
        refine V_callSi (pc := 42) dX10_mix_42 (c_X10_between Z _ _ _ _) kX10_60 rfl (Nat.le_of_ble_eq_true rfl) (by decide) (by decide) (Nat.le_of_ble_eq_true rfl) (Nat.le_of_ble_eq_true rfl) ?_
        refine V_bif_ne (pc := 45) (tgt := 51) dX10_mix_45 (by decide) (fun h45 => ?_) (fun h45 => ?_)
        · skip
          refine V_aload_n (pc := 51) dX10_mix_51 1 rfl rfl ?_
          refine V_iload_n (pc := 52) dX10_mix_52 4 rfl rfl ?_
          refine V_callV (q0 := 0) (ci := 10) (C := RX10) (T := TX10) (N := 9) (pc := 53) dX10_mix_53 (c_X10_tellAll Z _ _ (by exact hx)) kX10_126 rfl rfl rfl rfl (Nat.le_of_ble_eq_true rfl) (by decide) (by decide) (Nat.le_of_ble_eq_true rfl) (Nat.le_of_ble_eq_true rfl) (fun v53 S53 hp53 => ?_)
          refine V_widen (n' := 4) (k' := 24) (Nat.le_refl _) (Nat.le_refl _) ?_
          obtain ⟨rfl, hc53, ht53⟩ := hp53
          refine V_lconst (v := 0) (pc := 56) dX10_mix_56 (by decide) ?_
          refine V_lstore (pc := 57) (L2 := [(5, .ref (Z.2.2.2 (10 + (a_).toNatClampNeg))), (0, .ref (Z.2.2.2 99)), (1, .int a_), (2, .int e_), (3, .int n_), (4, .int w_)]) dX10_mix_57 (by decide) rfl (fun x6_57 ex6_57 => ?_)
          subst ex6_57
          refine V_iconst (v := 0) (pc := 59) dX10_mix_59 (by decide) ?_
          refine V_istore (pc := 60) (L2 := [(6, .long 0), (5, .ref (Z.2.2.2 (10 + (a_).toNatClampNeg))), (0, .ref (Z.2.2.2 99)), (1, .int a_), (2, .int e_), (3, .int n_), (4, .int w_)]) dX10_mix_60 (by decide) rfl (fun x8_60 ex8_60 => ?_)
          subst ex8_60
          refine V_iconst (v := 0) (pc := 62) dX10_mix_62 (by decide) ?_
          refine V_istore (pc := 63) (L2 := [(8, .int 0), (6, .long 0), (5, .ref (Z.2.2.2 (10 + (a_).toNatClampNeg))), (0, .ref (Z.2.2.2 99)), (1, .int a_), (2, .int e_), (3, .int n_), (4, .int w_)]) dX10_mix_63 (by decide) rfl (fun x9_63 ex9_63 => ?_)
          subst ex9_63
          refine V_sub (L' := [(9, .int (nI 0)), (8, .int 0), (6, .long 0), (5, .ref (Z.2.2.2 (10 + (a_).toNatClampNeg))), (0, .ref (Z.2.2.2 99)), (1, .int a_), (2, .int e_), (3, .int n_), (4, .int w_)]) [0, 1, 2, 3, 4, 5, 6, 7, 8] rfl ?_
          refine Vloop (σ := Nat × Int32 × Int64) (fun x => (x.1) ≤ n_.toNatClampNeg ∧ (x.2.2) = mxB S53.2.2.2.1 e_ w_ (x.1) ∧ (x.2.1) = mxC S53.2.2.2.1 e_ w_ (x.1)) (fun x => n_.toNatClampNeg - (x.1)) (fun x => V XW Z cX10_mix RX10 11 (some .int) 8 4 24 B 4 24 65 [(9, .int (nI (x.1))), (8, .int (x.2.1)), (6, .long (x.2.2)), (5, .ref (Z.2.2.2 (10 + (a_).toNatClampNeg))), (0, .ref (Z.2.2.2 99)), (1, .int a_), (2, .int e_), (3, .int n_), (4, .int w_)] [] (S53)) ?_ (0, 0, 0) (by exact ⟨Nat.zero_le _, rfl, rfl⟩)
          rintro ⟨j, c_, u⟩ hI65 ih65
          have hI65 : j ≤ n_.toNatClampNeg ∧ u = mxB S53.2.2.2.1 e_ w_ j ∧ c_ = mxC S53.2.2.2.1 e_ w_ j := hI65
          show V XW Z cX10_mix RX10 11 (some .int) 8 4 24 B 4 24 65 [(9, .int (nI j)), (8, .int c_), (6, .long u), (5, .ref (Z.2.2.2 (10 + (a_).toNatClampNeg))), (0, .ref (Z.2.2.2 99)), (1, .int a_), (2, .int e_), (3, .int n_), (4, .int w_)] [] (S53)
          refine V_iload (pc := 65) dX10_mix_65 0 rfl ?_
          refine V_iload_n (pc := 67) dX10_mix_67 7 rfl rfl ?_
          refine V_icmp_ge (pc := 68) (tgt := 118) dX10_mix_68 (by decide) (fun h68 => ?_) (fun h68 => ?_)
          · skip
            have hj : n_.toNatClampNeg ≤ j := jge h68 (Nat.lt_of_le_of_lt hI65.1 (clampLt _))
            have ej : j = n_.toNatClampNeg := Nat.le_antisymm hI65.1 hj
            refine V_aload (pc := 118) dX10_mix_118 3 rfl ?_
            refine V_lload (pc := 120) dX10_mix_120 2 rfl ?_
            refine V_iload_n (pc := 122) dX10_mix_122 7 rfl rfl ?_
            refine V_callVv (ci := 8) (C := RX8) (T := TX8) (N := 3) (pc := 123) dX10_mix_123 (c_X8_becomeRow Z _ _ _ _ (by exact hs2) (by exact h35)) kX10_122 (x_sh Z _ (by exact hs2)) rfl rfl rfl (Nat.le_of_ble_eq_true rfl) (by decide) (by decide) (Nat.le_of_ble_eq_true rfl) (Nat.le_of_ble_eq_true rfl) ?_
            refine V_iload_n (pc := 126) dX10_mix_126 7 rfl rfl ?_
            exact V_iret (pc := 127) dX10_mix_127 (Nat.le_of_ble_eq_true rfl) (Nat.le_of_ble_eq_true rfl) (hB _ _ ⟨congrArg (fun z => some (Value.int z)) (by exact (if_pos ⟨hi2, h25, h35, h45⟩).symm), by rw [if_pos ⟨hi2, h25, h35, h45⟩, hI65.2.1, ej, mxB_cg ht53]; exact xCor_row hc53 hs2 _ _⟩)
          · skip
            have hj : j < n_.toNatClampNeg := jlt h68 (Nat.lt_of_le_of_lt hI65.1 (clampLt _))
            refine V_aload_n (pc := 71) dX10_mix_71 4 rfl rfl ?_
            refine V_iload_n (pc := 72) dX10_mix_72 6 rfl rfl ?_
            refine V_iload (pc := 73) dX10_mix_73 0 rfl ?_
            refine V_callVi (q0 := 0) (ci := 10) (C := RX10) (T := TX10) (N := 9) (pc := 75) dX10_mix_75 (c_X10_toldTogether Z _ _ _) kX10_130 rfl rfl rfl rfl (Nat.le_of_ble_eq_true rfl) (by decide) (by decide) (Nat.le_of_ble_eq_true rfl) (Nat.le_of_ble_eq_true rfl) ?_
            refine V_iload (pc := 78) dX10_mix_78 1 rfl ?_
            refine V_iadd (pc := 80) dX10_mix_80 ?_
            refine V_istore (pc := 81) (L2 := [(9, .int (nI j)), (8, .int c_), (6, .long u), (5, .ref (Z.2.2.2 (10 + (a_).toNatClampNeg))), (0, .ref (Z.2.2.2 99)), (1, .int a_), (2, .int e_), (3, .int n_), (4, .int w_)]) dX10_mix_81 (by decide) rfl (fun x10_81 ex10_81 => ?_)
            refine V_lload (pc := 83) dX10_mix_83 3 rfl ?_
            refine V_iload (pc := 85) dX10_mix_85 0 rfl ?_
            refine V_iconst (v := 1) (pc := 87) dX10_mix_87 (by decide) ?_
            refine V_iand (pc := 88) dX10_mix_88 ?_
            refine V_i2l (pc := 89) dX10_mix_89 rfl ?_
            refine V_iload (pc := 90) dX10_mix_90 1 rfl ?_
            refine V_lshl (pc := 92) dX10_mix_92 rfl ?_
            refine V_lor (pc := 93) dX10_mix_93 ?_
            refine V_lstore (pc := 94) (L2 := [(10, .int x10_81), (9, .int (nI j)), (8, .int c_), (5, .ref (Z.2.2.2 (10 + (a_).toNatClampNeg))), (0, .ref (Z.2.2.2 99)), (1, .int a_), (2, .int e_), (3, .int n_), (4, .int w_)]) dX10_mix_94 (by decide) rfl (fun x6_94 ex6_94 => ?_)
            refine V_iload (pc := 96) dX10_mix_96 9 rfl ?_
            refine V_iconst (v := 1) (pc := 98) dX10_mix_98 (by decide) ?_
            refine V_icmp_ne (pc := 99) (tgt := 109) dX10_mix_99 (by decide) (fun h99 => ?_) (fun h99 => ?_)
            · skip
              refine V_iconst (v := 0) (pc := 109) dX10_mix_109 (by decide) ?_
              refine V_istore (pc := 110) (L2 := [(6, .long x6_94), (10, .int x10_81), (9, .int (nI j)), (5, .ref (Z.2.2.2 (10 + (a_).toNatClampNeg))), (0, .ref (Z.2.2.2 99)), (1, .int a_), (2, .int e_), (3, .int n_), (4, .int w_)]) dX10_mix_110 (by decide) rfl (fun x8_110 ex8_110 => ?_)
              subst ex8_110
              refine V_iinc (pc := 112) (v := 1) (L2 := [(8, .int 0), (6, .long x6_94), (10, .int x10_81), (5, .ref (Z.2.2.2 (10 + (a_).toNatClampNeg))), (0, .ref (Z.2.2.2 99)), (1, .int a_), (2, .int e_), (3, .int n_), (4, .int w_)]) dX10_mix_112 3 rfl (by decide) (by decide) rfl (fun x9_112 ex9_112 => ?_)
              rw [nI_1] at ex9_112
              subst ex9_112
              refine V_goto (pc := 115) (tgt := 65) dX10_mix_115 (by decide) ?_
              refine V_sub (L' := [(9, .int (nI (j + 1))), (8, .int 0), (6, .long x6_94), (5, .ref (Z.2.2.2 (10 + (a_).toNatClampNeg))), (0, .ref (Z.2.2.2 99)), (1, .int a_), (2, .int e_), (3, .int n_), (4, .int w_)]) [0, 1, 2, 4, 5, 6, 7, 8, 9] rfl ?_
              refine ih65 (((j + 1)), _, _) ?_ ?_
              · refine ⟨hj, ?_, ?_⟩
                · rw [← ex6_94, hI65.2.1, ← ex10_81, hI65.2.2]; rfl
                · first | exact (if_neg h99).symm | (rw [← ex10_81, hI65.2.2]; exact (if_pos h99).symm)
              · show n_.toNatClampNeg - (j + 1) < n_.toNatClampNeg - j
                omega
            · skip
              refine V_iload (pc := 102) dX10_mix_102 1 rfl ?_
              refine V_iconst (v := 1) (pc := 104) dX10_mix_104 (by decide) ?_
              refine V_ishr (pc := 105) dX10_mix_105 ?_
              refine V_goto (pc := 106) (tgt := 110) dX10_mix_106 (by decide) ?_
              refine V_istore (pc := 110) (L2 := [(6, .long x6_94), (10, .int x10_81), (9, .int (nI j)), (5, .ref (Z.2.2.2 (10 + (a_).toNatClampNeg))), (0, .ref (Z.2.2.2 99)), (1, .int a_), (2, .int e_), (3, .int n_), (4, .int w_)]) dX10_mix_110 (by decide) rfl (fun x8_110 ex8_110 => ?_)
              subst ex8_110
              refine V_iinc (pc := 112) (v := 1) (L2 := [(8, .int (x10_81 >>> (1 &&& 31))), (6, .long x6_94), (10, .int x10_81), (5, .ref (Z.2.2.2 (10 + (a_).toNatClampNeg))), (0, .ref (Z.2.2.2 99)), (1, .int a_), (2, .int e_), (3, .int n_), (4, .int w_)]) dX10_mix_112 3 rfl (by decide) (by decide) rfl (fun x9_112 ex9_112 => ?_)
              rw [nI_1] at ex9_112
              subst ex9_112
              refine V_goto (pc := 115) (tgt := 65) dX10_mix_115 (by decide) ?_
              refine V_sub (L' := [(9, .int (nI (j + 1))), (8, .int (x10_81 >>> (1 &&& 31))), (6, .long x6_94), (5, .ref (Z.2.2.2 (10 + (a_).toNatClampNeg))), (0, .ref (Z.2.2.2 99)), (1, .int a_), (2, .int e_), (3, .int n_), (4, .int w_)]) [0, 1, 2, 4, 5, 6, 7, 8, 9] rfl ?_
              refine ih65 (((j + 1)), _, _) ?_ ?_
              · refine ⟨hj, ?_, ?_⟩
                · rw [← ex6_94, hI65.2.1, ← ex10_81, hI65.2.2]; rfl
                · first | exact (if_neg h99).symm | (rw [← ex10_81, hI65.2.2]; exact (if_pos h99).symm)
              · show n_.toNatClampNeg - (j + 1) < n_.toNatClampNeg - j
                omega
        · skip
          refine V_bipush (v := (-2)) (pc := 48) dX10_mix_48 (by decide) ?_
          exact V_iret (pc := 50) dX10_mix_50 (Nat.le_of_ble_eq_true rfl) (Nat.le_of_ble_eq_true rfl) (hB _ _ ⟨congrArg (fun z => some (Value.int z)) (by first | exact (if_neg (fun h => hno2 h.1)).symm | exact (if_neg (fun h => h25 h.2.1)).symm | exact (if_neg (fun h => h35 h.2.2.1)).symm | exact (if_neg (fun h => h45 h.2.2.2)).symm), by first | (rw [if_neg (fun h => hno2 h.1)]; exact xCor_rfl _) | (rw [if_neg (fun h => h25 h.2.1)]; exact xCor_rfl _) | (rw [if_neg (fun h => h35 h.2.2.1)]; exact xCor_rfl _) | (rw [if_neg (fun h => h45 h.2.2.2)]; exact xCor_rfl _)⟩)
  · skip
    refine V_astoreN (L2 := [(0, .ref (Z.2.2.2 99)), (1, .int a_), (2, .int e_), (3, .int n_), (4, .int w_)]) (pc := 5) dX10_mix_5  (by decide) rfl ?_
    refine V_aloadN (pc := 7) dX10_mix_7 0 rfl ?_
    refine V_ifnullN (pc := 9) (tgt := 48) dX10_mix_9 (by decide) ?_
    refine V_bipush (v := (-2)) (pc := 48) dX10_mix_48 (by decide) ?_
    exact V_iret (pc := 50) dX10_mix_50 (Nat.le_of_ble_eq_true rfl) (Nat.le_of_ble_eq_true rfl) (hB _ _ ⟨congrArg (fun z => some (Value.int z)) (by first | exact (if_neg (fun h => hno2 h.1)).symm | exact (if_neg (fun h => h25 h.2.1)).symm | exact (if_neg (fun h => h35 h.2.2.1)).symm | exact (if_neg (fun h => h45 h.2.2.2)).symm), by first | (rw [if_neg (fun h => hno2 h.1)]; exact xCor_rfl _) | (rw [if_neg (fun h => h25 h.2.1)]; exact xCor_rfl _) | (rw [if_neg (fun h => h35 h.2.2.1)]; exact xCor_rfl _) | (rw [if_neg (fun h => h45 h.2.2.2)]; exact xCor_rfl _)⟩)
set_option maxHeartbeats 4000000 in
set_option maxRecDepth 100000 in
theorem c_X10_alike (Z : VZ) (S : XS) (m_ : Int32) (n_ : Int32) (hx : xOK S) : Ct XW Z yX10_alike cX10_alike 8 (some .int) 8 5 30 [.ref (Z.2.2.2 99), .int m_, .int n_] (S) (fun v S' => v = some (.int (if ((0 ≤ m_ ∧ m_ < S.1 1) ∧ (0 ≤ n_ ∧ n_ ≤ 40)) then alX (tvX S n_.toNatClampNeg) (tlL (kc (mfo S (xAd S m_) 0)) (gT S (xAd S m_)) n_.toNatClampNeg) (S.1 1).toNatClampNeg else -2)) ∧ xCor S S') := by
  refine V_entry (own := RX10) (by decide) rfl (Nat.le_of_ble_eq_true rfl) ?_
  intro B hB
  refine V_sub (L' := [(0, .ref (Z.2.2.2 99)), (1, .int m_), (2, .int n_)]) [0, 1, 2] rfl ?_
  refine V_aload_n (pc := 0) dX10_alike_0 0 rfl rfl ?_
  refine V_iload_n (pc := 1) dX10_alike_1 1 rfl rfl ?_
  refine V_callV (q0 := 0) (ci := 10) (C := RX10) (T := TX10) (N := 9) (pc := 2) dX10_alike_2 (c_X10_machineAt Z _ _ (by exact hx)) kX10_76 rfl rfl rfl rfl (Nat.le_of_ble_eq_true rfl) (by decide) (by decide) (Nat.le_of_ble_eq_true rfl) (Nat.le_of_ble_eq_true rfl) (fun v2 S2 hp2 => ?_)
  refine V_widen (n' := 0) (k' := 0) (Nat.le_refl _) (Nat.le_refl _) ?_
  obtain ⟨rfl, ⟨ma_, hvma_, hima_, hMma_, hama_, hmma_, rfl⟩ | ⟨hno2, rfl⟩⟩ := hp2
  · skip
    refine V_astore_n (pc := 5) (L2 := [(0, .ref (Z.2.2.2 99)), (1, .int m_), (2, .int n_)]) dX10_alike_5 rfl (by decide) rfl (fun x3_5 ex3_5 => ?_)
    subst ex3_5
    refine V_aload_n (pc := 6) dX10_alike_6 0 rfl rfl ?_
    refine V_ifnull (pc := 7) dX10_alike_7 ?_
    refine V_iload_n (pc := 10) dX10_alike_10 3 rfl rfl ?_
    refine V_iconst (v := 0) (pc := 11) dX10_alike_11 (by decide) ?_
    refine V_bipush (v := 40) (pc := 12) dX10_alike_12 (by decide) ?_
    refine V_callSi (pc := 14) dX10_alike_14 (c_X10_between Z _ _ _ _) kX10_60 rfl (Nat.le_of_ble_eq_true rfl) (by decide) (by decide) (Nat.le_of_ble_eq_true rfl) (Nat.le_of_ble_eq_true rfl) ?_
    refine V_bif_ne (pc := 17) (tgt := 23) dX10_alike_17 (by decide) (fun h17 => ?_) (fun h17 => ?_)
    · skip
      refine V_aload_n (pc := 23) dX10_alike_23 1 rfl rfl ?_
      refine V_iload_n (pc := 24) dX10_alike_24 3 rfl rfl ?_
      refine V_callV (q0 := 0) (ci := 10) (C := RX10) (T := TX10) (N := 9) (pc := 25) dX10_alike_25 (c_X10_tellAll Z _ _ (by exact hx)) kX10_126 rfl rfl rfl rfl (Nat.le_of_ble_eq_true rfl) (by decide) (by decide) (Nat.le_of_ble_eq_true rfl) (Nat.le_of_ble_eq_true rfl) (fun v25 S25 hp25 => ?_)
      refine V_widen (n' := 4) (k' := 24) (Nat.le_refl _) (Nat.le_refl _) ?_
      obtain ⟨rfl, hc25, ht25⟩ := hp25
      obtain ⟨kc1, kc2, kc3⟩ := hc25.2.2.2 ma_ hama_
      have xc := xcnt hx
      refine V_aload_n (pc := 28) dX10_alike_28 0 rfl rfl ?_
      refine V_callS (pc := 29) dX10_alike_29 (c_X10_thoughtOf Z _ _ (by exact kc1) (by rw [kc2]; exact hmma_)) kX10_114 rfl (Nat.le_of_ble_eq_true rfl) (by decide) (by decide) (Nat.le_of_ble_eq_true rfl) (Nat.le_of_ble_eq_true rfl) (fun v29 S29 hp29 => ?_)
      refine V_widen (n' := 5) (k' := 30) (Nat.le_refl _) (Nat.le_refl _) ?_
      obtain ⟨q_, rfl, hq_, rfl⟩ := hp29
      refine V_iload_n (pc := 32) dX10_alike_32 3 rfl rfl ?_
      refine V_callSl (pc := 33) dX10_alike_33 (c_X10_tell Z _ _ _ (by exact in_xN _ _ _ _) (by exact mcl_xN _ _ _ _)) kX10_110 rfl (Nat.le_of_ble_eq_true rfl) (by decide) (by decide) (Nat.le_of_ble_eq_true rfl) (Nat.le_of_ble_eq_true rfl) ?_
      refine V_eqS (xN S25 q_ (kc (mfo S25 ma_ 0)) (advN (kc (mfo S25 ma_ 0)) n_.toNatClampNeg (gT S25 ma_))) (by rw [xN_M, xmk_xN, mfo_xN]) ?_
      refine V_eql (tlL (kc (mfo S (xAd S m_) 0)) (gT S (xAd S m_)) n_.toNatClampNeg) (by rw [xmk_xN, mfo_xN, xAd_eq hMma_]; unfold gT; rw [kc3]) ?_
      refine V_lstore (pc := 36) (L2 := [(3, .ref (ma_)), (0, .ref (Z.2.2.2 99)), (1, .int m_), (2, .int n_)]) dX10_alike_36 (by decide) rfl (fun x4_36 ex4_36 => ?_)
      subst ex4_36
      refine V_iconst (v := 0) (pc := 38) dX10_alike_38 (by decide) ?_
      refine V_istore (pc := 39) (L2 := [(4, .long (tlL (kc (mfo S (xAd S m_) 0)) (gT S (xAd S m_)) n_.toNatClampNeg)), (3, .ref (ma_)), (0, .ref (Z.2.2.2 99)), (1, .int m_), (2, .int n_)]) dX10_alike_39 (by decide) rfl (fun x6_39 ex6_39 => ?_)
      subst ex6_39
      refine V_iconst (v := 0) (pc := 41) dX10_alike_41 (by decide) ?_
      refine V_istore (pc := 42) (L2 := [(6, .int 0), (4, .long (tlL (kc (mfo S (xAd S m_) 0)) (gT S (xAd S m_)) n_.toNatClampNeg)), (3, .ref (ma_)), (0, .ref (Z.2.2.2 99)), (1, .int m_), (2, .int n_)]) dX10_alike_42 (by decide) rfl (fun x7_42 ex7_42 => ?_)
      subst ex7_42
      refine V_sub (L' := [(7, .int (nI 0)), (6, .int 0), (4, .long (tlL (kc (mfo S (xAd S m_) 0)) (gT S (xAd S m_)) n_.toNatClampNeg)), (3, .ref (ma_)), (0, .ref (Z.2.2.2 99)), (1, .int m_), (2, .int n_)]) [0, 1, 2, 3, 4, 5, 6] rfl ?_
      refine Vloop (σ := Nat × Int32) (fun x => (x.1) ≤ (S.1 1).toNatClampNeg ∧ (x.2) = alX S25.2.2.2.1 (tlL (kc (mfo S (xAd S m_) 0)) (gT S (xAd S m_)) n_.toNatClampNeg) (x.1)) (fun x => (S.1 1).toNatClampNeg - (x.1)) (fun x => V XW Z cX10_alike RX10 8 (some .int) 8 5 30 B 5 30 44 [(7, .int (nI (x.1))), (6, .int (x.2)), (4, .long (tlL (kc (mfo S (xAd S m_) 0)) (gT S (xAd S m_)) n_.toNatClampNeg)), (3, .ref (ma_)), (0, .ref (Z.2.2.2 99)), (1, .int m_), (2, .int n_)] [] (xN S25 q_ (kc (mfo S25 ma_ 0)) (advN (kc (mfo S25 ma_ 0)) n_.toNatClampNeg (gT S25 ma_)))) ?_ (0, 0) (by exact ⟨Nat.zero_le _, rfl⟩)
      rintro ⟨j, u⟩ hI44 ih44
      have hI44 : j ≤ (S.1 1).toNatClampNeg ∧ u = alX S25.2.2.2.1 (tlL (kc (mfo S (xAd S m_) 0)) (gT S (xAd S m_)) n_.toNatClampNeg) j := hI44
      show V XW Z cX10_alike RX10 8 (some .int) 8 5 30 B 5 30 44 [(7, .int (nI j)), (6, .int u), (4, .long (tlL (kc (mfo S (xAd S m_) 0)) (gT S (xAd S m_)) n_.toNatClampNeg)), (3, .ref (ma_)), (0, .ref (Z.2.2.2 99)), (1, .int m_), (2, .int n_)] [] (xN S25 q_ (kc (mfo S25 ma_ 0)) (advN (kc (mfo S25 ma_ 0)) n_.toNatClampNeg (gT S25 ma_)))
      refine V_iload (pc := 44) dX10_alike_44 0 rfl ?_
      refine V_aload_n (pc := 46) dX10_alike_46 4 rfl rfl ?_
      refine Xg_X10_17 (pc := 47) (v := (S.1 1)) hc25.1.1 dX10_alike_47 ?_
      refine V_icmp_ge (pc := 50) (tgt := 91) dX10_alike_50 (by decide) (fun h50 => ?_) (fun h50 => ?_)
      · skip
        have hj : (S.1 1).toNatClampNeg ≤ j := jge h50 (by omega)
        have ej : j = (S.1 1).toNatClampNeg := Nat.le_antisymm hI44.1 hj
        refine V_iload (pc := 91) dX10_alike_91 1 rfl ?_
        exact V_iret (pc := 93) dX10_alike_93 (Nat.le_of_ble_eq_true rfl) (Nat.le_of_ble_eq_true rfl) (hB _ _ ⟨congrArg (fun z => some (Value.int z)) (by rw [if_pos ⟨hima_, h17⟩, hI44.2, ej]; exact alX_cg (fun i hi => ht25 i (by omega)) _), by exact xCor_tr hc25 (xCor_xN S25 _ _ hq_)⟩)
      · skip
        have hj : j < (S.1 1).toNatClampNeg := jlt h50 (by omega)
        refine V_iload (pc := 53) dX10_alike_53 0 rfl ?_
        refine V_aload_n (pc := 55) dX10_alike_55 4 rfl rfl ?_
        refine Xg_X10_55 (pc := 56) dX10_alike_56 ?_
        refine Xn_8 (pc := 59) dX10_alike_59 ?_
        refine V_icmp_ge (pc := 60) (tgt := 91) dX10_alike_60 (by decide) (fun h60 => ?_) (fun h60 => ?_)
        · skip
          exact absurd h60 (Int32.not_le.mpr (nI_lt (b := 4) (by omega) (by decide)))
        · skip
          refine V_aload_n (pc := 63) dX10_alike_63 4 rfl rfl ?_
          refine Xg_X10_55 (pc := 64) dX10_alike_64 ?_
          refine V_iload (pc := 67) dX10_alike_67 0 rfl ?_
          refine Xl_t (pc := 69) dX10_alike_69 (by exact vp_in_nI (by omega) (by decide)) ?_
          refine V_lload (pc := 70) dX10_alike_70 2 rfl ?_
          refine V_lcmp (pc := 72) dX10_alike_72 ?_
          refine V_if_ne (pc := 73) (tgt := 85) dX10_alike_73 (by decide) (fun h73 => ?_) (fun h73 => ?_)
          · skip
            have e73 : ¬ S25.2.2.2.1 j = (tlL (kc (mfo S (xAd S m_) 0)) (gT S (xAd S m_)) n_.toNatClampNeg) := fun z => h73 ((lg_cmp_eq _ _).mpr (by rw [nI_clamp (by omega)]; exact z))
            refine V_iinc (pc := 85) (v := 1) (L2 := [(6, .int u), (4, .long (tlL (kc (mfo S (xAd S m_) 0)) (gT S (xAd S m_)) n_.toNatClampNeg)), (3, .ref (ma_)), (0, .ref (Z.2.2.2 99)), (1, .int m_), (2, .int n_)]) dX10_alike_85 0 rfl (by decide) (by decide) rfl (fun x7_85 ex7_85 => ?_)
            rw [nI_1] at ex7_85
            subst ex7_85
            refine V_goto (pc := 88) (tgt := 44) dX10_alike_88 (by decide) ?_
            refine V_sub (L' := [(7, .int (nI (j + 1))), (6, .int u), (4, .long (tlL (kc (mfo S (xAd S m_) 0)) (gT S (xAd S m_)) n_.toNatClampNeg)), (3, .ref (ma_)), (0, .ref (Z.2.2.2 99)), (1, .int m_), (2, .int n_)]) [0, 1, 2, 3, 4, 5, 6] rfl ?_
            refine ih44 (((j + 1)), _) ?_ ?_
            · show ((j + 1)) ≤ (S.1 1).toNatClampNeg ∧ (u) = alX S25.2.2.2.1 (tlL (kc (mfo S (xAd S m_) 0)) (gT S (xAd S m_)) n_.toNatClampNeg) ((j + 1))
              refine ⟨hj, ?_⟩
              rw [hI44.2]
              first | exact (if_pos e73).symm | exact (if_neg e73).symm
            · show _ - (j + 1) < _ - j
              omega
          · skip
            have e73 : S25.2.2.2.1 j = (tlL (kc (mfo S (xAd S m_) 0)) (gT S (xAd S m_)) n_.toNatClampNeg) := by
              have z := (lg_cmp_eq _ _).mp h73
              rw [nI_clamp (by omega)] at z
              exact z
            refine V_iload (pc := 76) dX10_alike_76 1 rfl ?_
            refine V_iconst (v := 1) (pc := 78) dX10_alike_78 (by decide) ?_
            refine V_iload (pc := 79) dX10_alike_79 0 rfl ?_
            refine V_ishl (pc := 81) dX10_alike_81 ?_
            refine V_ior (pc := 82) dX10_alike_82 ?_
            refine V_istore (pc := 83) (L2 := [(7, .int (nI j)), (4, .long (tlL (kc (mfo S (xAd S m_) 0)) (gT S (xAd S m_)) n_.toNatClampNeg)), (3, .ref (ma_)), (0, .ref (Z.2.2.2 99)), (1, .int m_), (2, .int n_)]) dX10_alike_83 (by decide) rfl (fun x6_83 ex6_83 => ?_)
            subst ex6_83
            refine V_iinc (pc := 85) (v := 1) (L2 := [(6, .int (u ||| (1 <<< ((nI j) &&& 31)))), (4, .long (tlL (kc (mfo S (xAd S m_) 0)) (gT S (xAd S m_)) n_.toNatClampNeg)), (3, .ref (ma_)), (0, .ref (Z.2.2.2 99)), (1, .int m_), (2, .int n_)]) dX10_alike_85 1 rfl (by decide) (by decide) rfl (fun x7_85 ex7_85 => ?_)
            rw [nI_1] at ex7_85
            subst ex7_85
            refine V_goto (pc := 88) (tgt := 44) dX10_alike_88 (by decide) ?_
            refine V_sub (L' := [(7, .int (nI (j + 1))), (6, .int (u ||| (1 <<< ((nI j) &&& 31)))), (4, .long (tlL (kc (mfo S (xAd S m_) 0)) (gT S (xAd S m_)) n_.toNatClampNeg)), (3, .ref (ma_)), (0, .ref (Z.2.2.2 99)), (1, .int m_), (2, .int n_)]) [0, 1, 2, 3, 4, 5, 6] rfl ?_
            refine ih44 (((j + 1)), _) ?_ ?_
            · show ((j + 1)) ≤ (S.1 1).toNatClampNeg ∧ ((u ||| (1 <<< ((nI j) &&& 31)))) = alX S25.2.2.2.1 (tlL (kc (mfo S (xAd S m_) 0)) (gT S (xAd S m_)) n_.toNatClampNeg) ((j + 1))
              refine ⟨hj, ?_⟩
              rw [hI44.2]
              first | exact (if_pos e73).symm | exact (if_neg e73).symm
            · show _ - (j + 1) < _ - j
              omega
    · skip
      refine V_bipush (v := (-2)) (pc := 20) dX10_alike_20 (by decide) ?_
      exact V_iret (pc := 22) dX10_alike_22 (Nat.le_of_ble_eq_true rfl) (Nat.le_of_ble_eq_true rfl) (hB _ _ ⟨congrArg (fun z => some (Value.int z)) (by first | exact (if_neg (fun h => hno2 h.1)).symm | exact (if_neg (fun h => h17 h.2)).symm), by exact xCor_rfl _⟩)
  · skip
    refine V_astore_nN (L2 := [(0, .ref (Z.2.2.2 99)), (1, .int m_), (2, .int n_)]) (pc := 5) dX10_alike_5  rfl (by decide) rfl ?_
    refine V_aload_nN (pc := 6) dX10_alike_6 0 rfl rfl ?_
    refine V_ifnullN (pc := 7) (tgt := 20) dX10_alike_7 (by decide) ?_
    refine V_bipush (v := (-2)) (pc := 20) dX10_alike_20 (by decide) ?_
    exact V_iret (pc := 22) dX10_alike_22 (Nat.le_of_ble_eq_true rfl) (Nat.le_of_ble_eq_true rfl) (hB _ _ ⟨congrArg (fun z => some (Value.int z)) (by first | exact (if_neg (fun h => hno2 h.1)).symm | exact (if_neg (fun h => h17 h.2)).symm), by exact xCor_rfl _⟩)
/-- what set makes of the class -/
def setX (S : XS) (m_ w_ v_ : Int32) (S' : XS) : Prop := (¬ ((0 ≤ m_ ∧ m_ < S.1 1) ∧ (w_ = 0 ∨ w_ = 1 ∨ w_ = 2 ∨ w_ = 3)) ∧ S' = S) ∨ ((0 ≤ m_ ∧ m_ < S.1 1) ∧ ((w_ = 0 ∧ S' = if (0 ≤ v_ ∧ v_ ≤ 1 <<< (mfo S (xAd S m_) 1 &&& 31) - 1) then (xM S (xAd S m_) (upd (mfo S (xAd S m_)) 3 v_)) else S) ∨ (w_ = 1 ∧ S' = if (-9 ≤ v_ ∧ v_ ≤ 9) then (xM S (xAd S m_) (upd (mfo S (xAd S m_)) 4 v_)) else S) ∨ (w_ = 2 ∧ ((¬ (1 ≤ v_ ∧ v_ ≤ 1 <<< (mfo S (xAd S m_) 1 &&& 31) - 1) ∧ S' = S) ∨ ((1 ≤ v_ ∧ v_ ≤ 1 <<< (mfo S (xAd S m_) 1 &&& 31) - 1) ∧ ∃ q, q ∉ xL S ∧ S' = xR (xN S q (kc (mfo S (xAd S m_) 0)) (gM (mfo S (xAd S m_) 0) (mfo S (xAd S m_) 1) v_ (mfo S (xAd S m_) 3) (mfo S (xAd S m_) 4))) m_.toNatClampNeg q))) ∨ (w_ = 3 ∧ ((¬ (0 ≤ v_ ∧ v_ ≤ 5) ∧ S' = S) ∨ ((0 ≤ v_ ∧ v_ ≤ 5) ∧ ∃ q, q ∉ xL S ∧ S' = xR (xN S q (kc v_) (gM v_ (mfo S (xAd S m_) 1) (mfo S (xAd S m_) 2) (mfo S (xAd S m_) 3) (mfo S (xAd S m_) 4))) m_.toNatClampNeg q)))))
theorem cb_0 {w : Int32} {A B C D : Prop} (h : (w = 0 ∧ A) ∨ (w = 1 ∧ B) ∨ (w = 2 ∧ C) ∨ (w = 3 ∧ D)) (e : w = 0) : A := by
  subst e
  rcases h with h | h | h | h
  · exact h.2
  all_goals exact absurd h.1 (by decide)
theorem cb_1 {w : Int32} {A B C D : Prop} (h : (w = 0 ∧ A) ∨ (w = 1 ∧ B) ∨ (w = 2 ∧ C) ∨ (w = 3 ∧ D)) (e : w = 1) : B := by
  subst e
  rcases h with h | h | h | h
  · exact absurd h.1 (by decide)
  · exact h.2
  all_goals exact absurd h.1 (by decide)
theorem cb_2 {w : Int32} {A B C D : Prop} (h : (w = 0 ∧ A) ∨ (w = 1 ∧ B) ∨ (w = 2 ∧ C) ∨ (w = 3 ∧ D)) (e : w = 2) : C := by
  subst e
  rcases h with h | h | h | h
  · exact absurd h.1 (by decide)
  · exact absurd h.1 (by decide)
  · exact h.2
  · exact absurd h.1 (by decide)
theorem cb_3 {w : Int32} {A B C D : Prop} (h : (w = 0 ∧ A) ∨ (w = 1 ∧ B) ∨ (w = 2 ∧ C) ∨ (w = 3 ∧ D)) (e : ¬ w = 0) (f : ¬ w = 1) (g : ¬ w = 2) : w = 3 ∧ D := by
  rcases h with h | h | h | h
  · exact absurd h.1 e
  · exact absurd h.1 f
  · exact absurd h.1 g
  · exact h
theorem set_no {w x y z u t : Int32} {A B C D : Prop} [Decidable A] [Decidable B] [Decidable C] [Decidable D] (h : ¬ ((w = 0 ∧ A) ∨ (w = 1 ∧ B) ∨ (w = 2 ∧ C) ∨ (w = 3 ∧ D))) : (if w = 0 then (if A then x else t) else if w = 1 then (if B then y else t) else if w = 2 then (if C then z else t) else if w = 3 then (if D then u else t) else t) = t := by
  by_cases a : w = 0
  · rw [if_pos a, if_neg (fun q => h (Or.inl ⟨a, q⟩))]
  · by_cases b : w = 1
    · rw [if_neg a, if_pos b, if_neg (fun q => h (Or.inr (Or.inl ⟨b, q⟩)))]
    · by_cases c : w = 2
      · rw [if_neg a, if_neg b, if_pos c, if_neg (fun q => h (Or.inr (Or.inr (Or.inl ⟨c, q⟩))))]
      · by_cases d : w = 3
        · rw [if_neg a, if_neg b, if_neg c, if_pos d, if_neg (fun q => h (Or.inr (Or.inr (Or.inr ⟨d, q⟩))))]
        · rw [if_neg a, if_neg b, if_neg c, if_neg d]
theorem setX_no {S : XS} {m_ w_ v_ : Int32} (hp : (0 ≤ m_ ∧ m_ < S.1 1)) (h : ¬ ((w_ = 0 ∧ (0 ≤ v_ ∧ v_ ≤ 1 <<< (mfo S (xAd S m_) 1 &&& 31) - 1)) ∨ (w_ = 1 ∧ (-9 ≤ v_ ∧ v_ ≤ 9)) ∨ (w_ = 2 ∧ (1 ≤ v_ ∧ v_ ≤ 1 <<< (mfo S (xAd S m_) 1 &&& 31) - 1)) ∨ (w_ = 3 ∧ (0 ≤ v_ ∧ v_ ≤ 5)))) : setX S m_ w_ v_ S := by
  by_cases a : w_ = 0
  · exact Or.inr ⟨hp, Or.inl ⟨a, (if_neg (fun q => h (Or.inl ⟨a, q⟩))).symm⟩⟩
  · by_cases b : w_ = 1
    · exact Or.inr ⟨hp, Or.inr (Or.inl ⟨b, (if_neg (fun q => h (Or.inr (Or.inl ⟨b, q⟩)))).symm⟩)⟩
    · by_cases c : w_ = 2
      · exact Or.inr ⟨hp, Or.inr (Or.inr (Or.inl ⟨c, Or.inl ⟨fun q => h (Or.inr (Or.inr (Or.inl ⟨c, q⟩))), rfl⟩⟩))⟩
      · by_cases d : w_ = 3
        · exact Or.inr ⟨hp, Or.inr (Or.inr (Or.inr ⟨d, Or.inl ⟨fun q => h (Or.inr (Or.inr (Or.inr ⟨d, q⟩))), rfl⟩⟩))⟩
        · exact Or.inl ⟨fun q => q.2.elim a (fun q => q.elim b (fun q => q.elim c d)), rfl⟩
set_option maxHeartbeats 4000000 in
set_option maxRecDepth 100000 in
theorem c_X10_set (Z : VZ) (S : XS) (m_ : Int32) (w_ : Int32) (v_ : Int32) (hx : xOK S) : Ct XW Z yX10_set cX10_set 6 (some .int) 6 1 6 [.ref (Z.2.2.2 99), .int m_, .int w_, .int v_] (S) (fun v S' => v = some (.int (if (0 ≤ m_ ∧ m_ < S.1 1) then (if w_ = 0 then (if (0 ≤ v_ ∧ v_ ≤ 1 <<< (mfo S (xAd S m_) 1 &&& 31) - 1) then mfo S (xAd S m_) 3 else -1000) else if w_ = 1 then (if (-9 ≤ v_ ∧ v_ ≤ 9) then mfo S (xAd S m_) 4 else -1000) else if w_ = 2 then (if (1 ≤ v_ ∧ v_ ≤ 1 <<< (mfo S (xAd S m_) 1 &&& 31) - 1) then mfo S (xAd S m_) 2 else -1000) else if w_ = 3 then (if (0 ≤ v_ ∧ v_ ≤ 5) then mfo S (xAd S m_) 0 else -1000) else -1000) else -1000)) ∧ setX S m_ w_ v_ S') := by
  refine V_entry (own := RX10) (by decide) rfl (Nat.le_of_ble_eq_true rfl) ?_
  intro B hB
  refine V_sub (L' := [(0, .ref (Z.2.2.2 99)), (1, .int m_), (2, .int w_), (3, .int v_)]) [0, 1, 2, 3] rfl ?_
  refine V_aload_n (pc := 0) dX10_set_0 0 rfl rfl ?_
  refine V_iload_n (pc := 1) dX10_set_1 1 rfl rfl ?_
  refine V_callV (q0 := 0) (ci := 10) (C := RX10) (T := TX10) (N := 9) (pc := 2) dX10_set_2 (c_X10_machineAt Z _ _ (by exact hx)) kX10_76 rfl rfl rfl rfl (Nat.le_of_ble_eq_true rfl) (by decide) (by decide) (Nat.le_of_ble_eq_true rfl) (Nat.le_of_ble_eq_true rfl) (fun v2 S2 hp2 => ?_)
  refine V_widen (n' := 0) (k' := 0) (Nat.le_refl _) (Nat.le_refl _) ?_
  obtain ⟨rfl, ⟨ma_, hvma_, hima_, hMma_, hama_, hmma_, rfl⟩ | ⟨hno2, rfl⟩⟩ := hp2
  · skip
    refine V_astore (pc := 5) (L2 := [(0, .ref (Z.2.2.2 99)), (1, .int m_), (2, .int w_), (3, .int v_)]) dX10_set_5 (by decide) rfl (fun x4_5 ex4_5 => ?_)
    subst ex4_5
    refine V_aload (pc := 7) dX10_set_7 0 rfl ?_
    refine V_ifnull (pc := 9) dX10_set_9 ?_
    refine V_iload_n (pc := 12) dX10_set_12 2 rfl rfl ?_
    refine V_iconst (v := 0) (pc := 13) dX10_set_13 (by decide) ?_
    refine V_aload_n (pc := 14) dX10_set_14 1 rfl rfl ?_
    refine Xg_X10_13 (pc := 15) dX10_set_15 ?_
    refine Xn_0 (pc := 18) dX10_set_18 ?_
    refine V_iconst (v := 1) (pc := 19) dX10_set_19 (by decide) ?_
    refine V_isub (pc := 20) dX10_set_20 ?_
    refine V_callSi (pc := 21) dX10_set_21 (c_X10_between Z _ _ _ _) kX10_60 rfl (Nat.le_of_ble_eq_true rfl) (by decide) (by decide) (Nat.le_of_ble_eq_true rfl) (Nat.le_of_ble_eq_true rfl) ?_
    refine V_bif_eq (pc := 24) (tgt := 37) dX10_set_24 (by decide) (fun h24 => ?_) (fun h24 => ?_)
    · skip
      exact absurd (in03 hvma_) h24
    · skip
      refine V_aload (pc := 27) dX10_set_27 0 rfl ?_
      refine V_iload_n (pc := 29) dX10_set_29 3 rfl rfl ?_
      refine V_iload_n (pc := 30) dX10_set_30 4 rfl rfl ?_
      refine V_callSi (pc := 31) dX10_set_31 (c_X10_canBecome Z _ _ _ _ (by exact hama_) (by exact hmma_)) kX10_80 rfl (Nat.le_of_ble_eq_true rfl) (by decide) (by decide) (Nat.le_of_ble_eq_true rfl) (Nat.le_of_ble_eq_true rfl) ?_
      refine V_bif_ne (pc := 34) (tgt := 41) dX10_set_34 (by decide) (fun h34 => ?_) (fun h34 => ?_)
      · skip
        refine V_iload_n (pc := 41) dX10_set_41 3 rfl rfl ?_
        by_cases h42_0 : w_ = 0
        · refine V_eqi 0 h42_0 ?_
          refine V_tableIn (pc := 42) (tgt := 68) dX10_set_42 (by decide) (by decide) rfl (by decide) ?_
          have hc_ := cb_0 h34 h42_0
          refine V_aload (pc := 68) dX10_set_68 0 rfl ?_
          refine Xmg_state (pc := 70) (v := (mfo S ma_ 3)) (by exact hama_) (by exact hmma_) rfl dX10_set_70 tw_210 (Or.inl rfl) ?_
          refine V_istore (pc := 73) (L2 := [(4, .ref (ma_)), (0, .ref (Z.2.2.2 99)), (1, .int m_), (2, .int w_), (3, .int v_)]) dX10_set_73 (by decide) rfl (fun x5_73 ex5_73 => ?_)
          subst ex5_73
          refine V_aload (pc := 75) dX10_set_75 1 rfl ?_
          refine V_iload_n (pc := 77) dX10_set_77 5 rfl rfl ?_
          refine Xmp_state (pc := 78) (by exact hama_) (by exact hmma_) dX10_set_78 tw_210 (Or.inl rfl) ?_
          refine V_goto (pc := 81) (tgt := 177) dX10_set_81 (by decide) ?_
          refine V_iload (pc := 177) dX10_set_177 0 rfl ?_
          exact V_iret (pc := 179) dX10_set_179 (Nat.le_of_ble_eq_true rfl) (Nat.le_of_ble_eq_true rfl) (hB _ _ ⟨congrArg (fun z => some (Value.int z)) (by first | rw [if_pos hima_, if_pos h42_0, xAd_eq hMma_, if_pos hc_] | rw [if_pos hima_, if_neg h42_0, if_pos h42_1, xAd_eq hMma_, if_pos hc_] | rw [if_pos hima_, if_neg h42_0, if_neg h42_1, if_pos h42_2, xAd_eq hMma_, if_pos hc_] | (have hc_ := cb_3 h34 h42_0 h42_1 h42_2; rw [if_pos hima_, if_neg h42_0, if_neg h42_1, if_neg h42_2, if_pos hc_.1, xAd_eq hMma_, if_pos hc_.2])), by unfold setX; rw [xAd_eq hMma_]; first | exact Or.inr ⟨hima_, Or.inl ⟨h42_0, (if_pos hc_).symm⟩⟩ | exact Or.inr ⟨hima_, Or.inr (Or.inl ⟨h42_1, (if_pos hc_).symm⟩)⟩ | exact Or.inr ⟨hima_, Or.inr (Or.inr (Or.inl ⟨h42_2, Or.inr ⟨hc_, q_, hq_, rfl⟩⟩))⟩ | (have hc_ := cb_3 h34 h42_0 h42_1 h42_2; exact Or.inr ⟨hima_, Or.inr (Or.inr (Or.inr ⟨hc_.1, Or.inr ⟨hc_.2, q_, hq_, rfl⟩⟩))⟩)⟩)
        by_cases h42_1 : w_ = 1
        · refine V_eqi 1 h42_1 ?_
          refine V_tableIn (pc := 42) (tgt := 84) dX10_set_42 (by decide) (by decide) rfl (by decide) ?_
          have hc_ := cb_1 h34 h42_1
          refine V_aload (pc := 84) dX10_set_84 0 rfl ?_
          refine Xmg_carry (pc := 86) (v := (mfo S ma_ 4)) (by exact hama_) (by exact hmma_) rfl dX10_set_86 tw_218 (Or.inl rfl) ?_
          refine V_istore (pc := 89) (L2 := [(4, .ref (ma_)), (0, .ref (Z.2.2.2 99)), (1, .int m_), (2, .int w_), (3, .int v_)]) dX10_set_89 (by decide) rfl (fun x5_89 ex5_89 => ?_)
          subst ex5_89
          refine V_aload (pc := 91) dX10_set_91 1 rfl ?_
          refine V_iload_n (pc := 93) dX10_set_93 5 rfl rfl ?_
          refine Xmp_carry (pc := 94) (by exact hama_) (by exact hmma_) dX10_set_94 tw_218 (Or.inl rfl) ?_
          refine V_goto (pc := 97) (tgt := 177) dX10_set_97 (by decide) ?_
          refine V_iload (pc := 177) dX10_set_177 0 rfl ?_
          exact V_iret (pc := 179) dX10_set_179 (Nat.le_of_ble_eq_true rfl) (Nat.le_of_ble_eq_true rfl) (hB _ _ ⟨congrArg (fun z => some (Value.int z)) (by first | rw [if_pos hima_, if_pos h42_0, xAd_eq hMma_, if_pos hc_] | rw [if_pos hima_, if_neg h42_0, if_pos h42_1, xAd_eq hMma_, if_pos hc_] | rw [if_pos hima_, if_neg h42_0, if_neg h42_1, if_pos h42_2, xAd_eq hMma_, if_pos hc_] | (have hc_ := cb_3 h34 h42_0 h42_1 h42_2; rw [if_pos hima_, if_neg h42_0, if_neg h42_1, if_neg h42_2, if_pos hc_.1, xAd_eq hMma_, if_pos hc_.2])), by unfold setX; rw [xAd_eq hMma_]; first | exact Or.inr ⟨hima_, Or.inl ⟨h42_0, (if_pos hc_).symm⟩⟩ | exact Or.inr ⟨hima_, Or.inr (Or.inl ⟨h42_1, (if_pos hc_).symm⟩)⟩ | exact Or.inr ⟨hima_, Or.inr (Or.inr (Or.inl ⟨h42_2, Or.inr ⟨hc_, q_, hq_, rfl⟩⟩))⟩ | (have hc_ := cb_3 h34 h42_0 h42_1 h42_2; exact Or.inr ⟨hima_, Or.inr (Or.inr (Or.inr ⟨hc_.1, Or.inr ⟨hc_.2, q_, hq_, rfl⟩⟩))⟩)⟩)
        by_cases h42_2 : w_ = 2
        · refine V_eqi 2 h42_2 ?_
          refine V_tableIn (pc := 42) (tgt := 100) dX10_set_42 (by decide) (by decide) rfl (by decide) ?_
          have hc_ := cb_2 h34 h42_2
          refine V_aload (pc := 100) dX10_set_100 0 rfl ?_
          refine Xmg_taps (pc := 102) (v := (mfo S ma_ 2)) (by exact hama_) (by exact hmma_) rfl dX10_set_102 tw_206 (Or.inl rfl) ?_
          refine V_istore (pc := 105) (L2 := [(4, .ref (ma_)), (0, .ref (Z.2.2.2 99)), (1, .int m_), (2, .int w_), (3, .int v_)]) dX10_set_105 (by decide) rfl (fun x5_105 ex5_105 => ?_)
          subst ex5_105
          refine V_aload_n (pc := 107) dX10_set_107 2 rfl rfl ?_
          refine Xg_X10_13 (pc := 108) dX10_set_108 ?_
          refine V_iload_n (pc := 111) dX10_set_111 3 rfl rfl ?_
          refine V_aload (pc := 112) dX10_set_112 1 rfl ?_
          refine Xmg_kind (pc := 114) (v := (mfo S ma_ 0)) (by exact hama_) (by exact hmma_) rfl dX10_set_114 tw_198 (Or.inl rfl) ?_
          refine V_aload (pc := 117) dX10_set_117 1 rfl ?_
          refine Xmg_cells (pc := 119) (v := (mfo S ma_ 1)) (by exact hama_) (by exact hmma_) rfl dX10_set_119 tw_202 (Or.inl rfl) ?_
          refine V_iload_n (pc := 122) dX10_set_122 5 rfl rfl ?_
          refine V_aload (pc := 123) dX10_set_123 1 rfl ?_
          refine Xmg_state (pc := 125) (v := (mfo S ma_ 3)) (by exact hama_) (by exact hmma_) rfl dX10_set_125 tw_210 (Or.inl rfl) ?_
          refine V_aload (pc := 128) dX10_set_128 1 rfl ?_
          refine Xmg_carry (pc := 130) (v := (mfo S ma_ 4)) (by exact hama_) (by exact hmma_) rfl dX10_set_130 tw_218 (Or.inl rfl) ?_
          refine V_callS (pc := 133) dX10_set_133 (c_X10_made Z _ _ _ _ _ _) kX10_68 rfl (Nat.le_of_ble_eq_true rfl) (by decide) (by decide) (Nat.le_of_ble_eq_true rfl) (Nat.le_of_ble_eq_true rfl) (fun v133 S133 hp133 => ?_)
          refine V_widen (n' := 1) (k' := 6) (Nat.le_refl _) (Nat.le_refl _) ?_
          obtain ⟨q_, rfl, hq_, rfl⟩ := hp133
          refine Xs_m (pc := 136) (by exact in_xN _ _ _ _) (by exact mcl_xN _ _ _ _) dX10_set_136 (by exact hvma_) ?_
          refine V_goto (pc := 137) (tgt := 177) dX10_set_137 (by decide) ?_
          refine V_iload (pc := 177) dX10_set_177 0 rfl ?_
          exact V_iret (pc := 179) dX10_set_179 (Nat.le_of_ble_eq_true rfl) (Nat.le_of_ble_eq_true rfl) (hB _ _ ⟨congrArg (fun z => some (Value.int z)) (by first | rw [if_pos hima_, if_pos h42_0, xAd_eq hMma_, if_pos hc_] | rw [if_pos hima_, if_neg h42_0, if_pos h42_1, xAd_eq hMma_, if_pos hc_] | rw [if_pos hima_, if_neg h42_0, if_neg h42_1, if_pos h42_2, xAd_eq hMma_, if_pos hc_] | (have hc_ := cb_3 h34 h42_0 h42_1 h42_2; rw [if_pos hima_, if_neg h42_0, if_neg h42_1, if_neg h42_2, if_pos hc_.1, xAd_eq hMma_, if_pos hc_.2])), by unfold setX; rw [xAd_eq hMma_]; first | exact Or.inr ⟨hima_, Or.inl ⟨h42_0, (if_pos hc_).symm⟩⟩ | exact Or.inr ⟨hima_, Or.inr (Or.inl ⟨h42_1, (if_pos hc_).symm⟩)⟩ | exact Or.inr ⟨hima_, Or.inr (Or.inr (Or.inl ⟨h42_2, Or.inr ⟨hc_, q_, hq_, rfl⟩⟩))⟩ | (have hc_ := cb_3 h34 h42_0 h42_1 h42_2; exact Or.inr ⟨hima_, Or.inr (Or.inr (Or.inr ⟨hc_.1, Or.inr ⟨hc_.2, q_, hq_, rfl⟩⟩))⟩)⟩)
        refine V_tableOut (pc := 42) (tgt := 140) dX10_set_42 (by have a0 := lv_neT h42_0 (a := 0) rfl; have a1 := lv_neT h42_1 (a := 1) rfl; have a2 := lv_neT h42_2 (a := 2) rfl; omega) (by decide) ?_
        refine V_aload (pc := 140) dX10_set_140 0 rfl ?_
        refine Xmg_kind (pc := 142) (v := (mfo S ma_ 0)) (by exact hama_) (by exact hmma_) rfl dX10_set_142 tw_198 (Or.inl rfl) ?_
        refine V_istore (pc := 145) (L2 := [(4, .ref (ma_)), (0, .ref (Z.2.2.2 99)), (1, .int m_), (2, .int w_), (3, .int v_)]) dX10_set_145 (by decide) rfl (fun x5_145 ex5_145 => ?_)
        subst ex5_145
        refine V_aload_n (pc := 147) dX10_set_147 2 rfl rfl ?_
        refine Xg_X10_13 (pc := 148) dX10_set_148 ?_
        refine V_iload_n (pc := 151) dX10_set_151 3 rfl rfl ?_
        refine V_iload_n (pc := 152) dX10_set_152 5 rfl rfl ?_
        refine V_aload (pc := 153) dX10_set_153 1 rfl ?_
        refine Xmg_cells (pc := 155) (v := (mfo S ma_ 1)) (by exact hama_) (by exact hmma_) rfl dX10_set_155 tw_202 (Or.inl rfl) ?_
        refine V_aload (pc := 158) dX10_set_158 1 rfl ?_
        refine Xmg_taps (pc := 160) (v := (mfo S ma_ 2)) (by exact hama_) (by exact hmma_) rfl dX10_set_160 tw_206 (Or.inl rfl) ?_
        refine V_aload (pc := 163) dX10_set_163 1 rfl ?_
        refine Xmg_state (pc := 165) (v := (mfo S ma_ 3)) (by exact hama_) (by exact hmma_) rfl dX10_set_165 tw_210 (Or.inl rfl) ?_
        refine V_aload (pc := 168) dX10_set_168 1 rfl ?_
        refine Xmg_carry (pc := 170) (v := (mfo S ma_ 4)) (by exact hama_) (by exact hmma_) rfl dX10_set_170 tw_218 (Or.inl rfl) ?_
        refine V_callS (pc := 173) dX10_set_173 (c_X10_made Z _ _ _ _ _ _) kX10_68 rfl (Nat.le_of_ble_eq_true rfl) (by decide) (by decide) (Nat.le_of_ble_eq_true rfl) (Nat.le_of_ble_eq_true rfl) (fun v173 S173 hp173 => ?_)
        refine V_widen (n' := 1) (k' := 6) (Nat.le_refl _) (Nat.le_refl _) ?_
        obtain ⟨q_, rfl, hq_, rfl⟩ := hp173
        refine Xs_m (pc := 176) (by exact in_xN _ _ _ _) (by exact mcl_xN _ _ _ _) dX10_set_176 (by exact hvma_) ?_
        refine V_iload (pc := 177) dX10_set_177 0 rfl ?_
        exact V_iret (pc := 179) dX10_set_179 (Nat.le_of_ble_eq_true rfl) (Nat.le_of_ble_eq_true rfl) (hB _ _ ⟨congrArg (fun z => some (Value.int z)) (by first | rw [if_pos hima_, if_pos h42_0, xAd_eq hMma_, if_pos hc_] | rw [if_pos hima_, if_neg h42_0, if_pos h42_1, xAd_eq hMma_, if_pos hc_] | rw [if_pos hima_, if_neg h42_0, if_neg h42_1, if_pos h42_2, xAd_eq hMma_, if_pos hc_] | (have hc_ := cb_3 h34 h42_0 h42_1 h42_2; rw [if_pos hima_, if_neg h42_0, if_neg h42_1, if_neg h42_2, if_pos hc_.1, xAd_eq hMma_, if_pos hc_.2])), by unfold setX; rw [xAd_eq hMma_]; first | exact Or.inr ⟨hima_, Or.inl ⟨h42_0, (if_pos hc_).symm⟩⟩ | exact Or.inr ⟨hima_, Or.inr (Or.inl ⟨h42_1, (if_pos hc_).symm⟩)⟩ | exact Or.inr ⟨hima_, Or.inr (Or.inr (Or.inl ⟨h42_2, Or.inr ⟨hc_, q_, hq_, rfl⟩⟩))⟩ | (have hc_ := cb_3 h34 h42_0 h42_1 h42_2; exact Or.inr ⟨hima_, Or.inr (Or.inr (Or.inr ⟨hc_.1, Or.inr ⟨hc_.2, q_, hq_, rfl⟩⟩))⟩)⟩)
      · skip
        refine V_sipush (v := (-1000)) (pc := 37) dX10_set_37 (by decide) ?_
        exact V_iret (pc := 40) dX10_set_40 (Nat.le_of_ble_eq_true rfl) (Nat.le_of_ble_eq_true rfl) (hB _ _ ⟨congrArg (fun z => some (Value.int z)) (by first | exact (if_neg hno2).symm | (rw [if_pos hima_, xAd_eq hMma_]; exact (set_no h34).symm)), by first | exact Or.inl ⟨fun h => hno2 h.1, rfl⟩ | exact setX_no hima_ (by rw [xAd_eq hMma_]; exact h34)⟩)
  · skip
    refine V_astoreN (L2 := [(0, .ref (Z.2.2.2 99)), (1, .int m_), (2, .int w_), (3, .int v_)]) (pc := 5) dX10_set_5  (by decide) rfl ?_
    refine V_aloadN (pc := 7) dX10_set_7 0 rfl ?_
    refine V_ifnullN (pc := 9) (tgt := 37) dX10_set_9 (by decide) ?_
    refine V_sipush (v := (-1000)) (pc := 37) dX10_set_37 (by decide) ?_
    exact V_iret (pc := 40) dX10_set_40 (Nat.le_of_ble_eq_true rfl) (Nat.le_of_ble_eq_true rfl) (hB _ _ ⟨congrArg (fun z => some (Value.int z)) (by first | exact (if_neg hno2).symm | (rw [if_pos hima_, xAd_eq hMma_]; exact (set_no h34).symm)), by first | exact Or.inl ⟨fun h => hno2 h.1, rfl⟩ | exact setX_no hima_ (by rw [xAd_eq hMma_]; exact h34)⟩)
theorem hasIn {z i : Int32} (h1 : ¬ lg_cmp (Int32.toInt64 i) 0 < 0) (h2 : ¬ 0 < lg_cmp (Int32.toInt64 i + 1) (Int32.toInt64 z)) (h3 : ¬ 40 < z) : 0 ≤ i ∧ i < z ∧ z ≤ 40 ∧ vp_in i 40 := by
  rw [lg_cmp_lt] at h1
  rw [lg_cmp_gt] at h2
  have h1 := Int64.le_iff_toInt_le.mp (Int64.not_lt.mp h1)
  have h2 := Int64.le_iff_toInt_le.mp (Int64.not_lt.mp h2)
  have h3 := Int32.le_iff_toInt_le.mp (Int32.not_lt.mp h3)
  have e0 : (0 : Int64).toInt = 0 := rfl
  have e4 : (40 : Int32).toInt = 40 := rfl
  have e1 : (1 : Int64).toInt = 1 := rfl
  have b1 := i.toInt_lt
  have b2 := i.le_toInt
  rw [e0, Int32.toInt_toInt64] at h1
  rw [Int64.toInt_add, Int32.toInt_toInt64, e1, Int32.toInt_toInt64, Int.bmod_eq_of_le (by omega) (by omega)] at h2
  rw [e4] at h3
  have k1 : 0 ≤ i := Int32.le_iff_toInt_le.mpr h1
  have k2 : i < z := Int32.lt_iff_toInt_lt.mpr (by omega)
  refine ⟨k1, k2, Int32.le_iff_toInt_le.mpr (by rw [e4]; exact h3), ?_⟩
  obtain ⟨j, hj, rfl⟩ := nI_of (Int32.not_lt.mpr k1)
  refine vp_in_nI ?_ (by decide)
  have e5 : (nI j).toInt = j := nI_toInt hj
  omega
set_option maxHeartbeats 4000000 in
set_option maxRecDepth 100000 in
theorem c_X10_put (Z : VZ) (S : XS) (a_ : Int32) (i_ : Int32) (v_ : Int32) : CtF XW Z yX10_put cX10_put 5 (some .int) 1 0 0 [.ref (Z.2.2.2 99), .int a_, .int i_, .int v_] (S) (some (.int (if (0 ≤ a_ ∧ a_ ≤ 3) then (if S.1 (10 + a_.toNatClampNeg) = -1 then -11 else if (¬ lg_cmp (Int32.toInt64 i_) 0 < 0 ∧ ¬ lg_cmp 1 0 < 0 ∧ ¬ 0 < lg_cmp (Int32.toInt64 i_ + 1) (Int32.toInt64 (S.1 (20 + a_.toNatClampNeg))) ∧ ¬ 40 < (S.1 (20 + a_.toNatClampNeg))) then 1 else -12) else -2))) (if (0 ≤ a_ ∧ a_ ≤ 3) ∧ ¬ S.1 (10 + a_.toNatClampNeg) = -1 ∧ (¬ lg_cmp (Int32.toInt64 i_) 0 < 0 ∧ ¬ lg_cmp 1 0 < 0 ∧ ¬ 0 < lg_cmp (Int32.toInt64 i_ + 1) (Int32.toInt64 (S.1 (20 + a_.toNatClampNeg))) ∧ ¬ 40 < (S.1 (20 + a_.toNatClampNeg))) then xA S (20 + a_.toNatClampNeg) (upd (S.2.2.1 (20 + a_.toNatClampNeg)) i_.toNatClampNeg (if S.1 (10 + a_.toNatClampNeg) = 0 then (Int32.toInt16 v_).toInt32 else v_)) else S) := by
  refine V_entry (own := RX10) (by decide) rfl (Nat.le_of_ble_eq_true rfl) ?_
  intro B hB
  refine V_sub (L' := [(0, .ref (Z.2.2.2 99)), (1, .int a_), (2, .int i_), (3, .int v_)]) [0, 1, 2, 3] rfl ?_
  refine V_aload_n (pc := 0) dX10_put_0 0 rfl rfl ?_
  refine V_iload_n (pc := 1) dX10_put_1 1 rfl rfl ?_
  refine V_callV (q0 := 0) (ci := 10) (C := RX10) (T := TX10) (N := 9) (pc := 2) dX10_put_2 (c_X10_sheetAt Z _ _) kX10_118 rfl rfl rfl rfl (Nat.le_of_ble_eq_true rfl) (by decide) (by decide) (Nat.le_of_ble_eq_true rfl) (Nat.le_of_ble_eq_true rfl) (fun v2 S2 hp2 => ?_)
  refine V_widen (n' := 0) (k' := 0) (Nat.le_refl _) (Nat.le_refl _) ?_
  obtain ⟨rfl, ⟨hv2, hs2, hi2, rfl⟩ | ⟨hno2, rfl⟩⟩ := hp2
  · skip
    refine V_astore (pc := 5) (L2 := [(0, .ref (Z.2.2.2 99)), (1, .int a_), (2, .int i_), (3, .int v_)]) dX10_put_5 (by decide) rfl (fun x4_5 ex4_5 => ?_)
    subst ex4_5
    refine V_aload (pc := 7) dX10_put_7 0 rfl ?_
    refine V_ifnonnull (pc := 9) (tgt := 15) dX10_put_9 (by decide) ?_
    refine V_aload (pc := 15) dX10_put_15 0 rfl ?_
    refine V_callVi (ci := 8) (C := RX8) (T := TX8) (N := 3) (pc := 17) dX10_put_17 (c_X8_isMissing Z _ _ (by exact hs2)) kX10_134 (x_sh Z _ (by exact hs2)) rfl rfl rfl (Nat.le_of_ble_eq_true rfl) (by decide) (by decide) (Nat.le_of_ble_eq_true rfl) (Nat.le_of_ble_eq_true rfl) ?_
    refine V_bif_eq (pc := 20) (tgt := 26) dX10_put_20 (by decide) (fun h20 => ?_) (fun h20 => ?_)
    · skip
      refine V_aload (pc := 26) dX10_put_26 0 rfl ?_
      refine V_iload_n (pc := 28) dX10_put_28 3 rfl rfl ?_
      refine V_i2l (pc := 29) dX10_put_29 rfl ?_
      refine V_lconst (v := 1) (pc := 30) dX10_put_30 (by decide) ?_
      refine V_callVi (ci := 8) (C := RX8) (T := TX8) (N := 3) (pc := 31) dX10_put_31 (c_X8_has Z _ _ _ _ (by exact hs2)) kX10_267 (x_sh Z _ (by exact hs2)) rfl rfl rfl (Nat.le_of_ble_eq_true rfl) (by decide) (by decide) (Nat.le_of_ble_eq_true rfl) (Nat.le_of_ble_eq_true rfl) ?_
      refine V_bif_ne (pc := 34) (tgt := 40) dX10_put_34 (by decide) (fun h34 => ?_) (fun h34 => ?_)
      · skip
        refine V_aload (pc := 40) dX10_put_40 0 rfl ?_
        refine Xg_X10_271 (pc := 42) (by exact hs2) dX10_put_42 ?_
        refine V_iload_n (pc := 45) dX10_put_45 3 rfl rfl ?_
        refine V_aload (pc := 46) dX10_put_46 0 rfl ?_
        refine Xg_X10_262 (pc := 48) (v := (S.1 (10 + (a_).toNatClampNeg))) (by exact hs2) rfl dX10_put_48 ?_
        refine V_if_ne (pc := 51) (tgt := 59) dX10_put_51 (by decide) (fun h51 => ?_) (fun h51 => ?_)
        · skip
          refine V_iload_n (pc := 59) dX10_put_59 4 rfl rfl ?_
          refine Xs_it (pc := 60) (by exact hs2) dX10_put_60 (by exact (hasIn h34.1 h34.2.2.1 h34.2.2.2).2.2.2) ?_
          refine V_iconst (v := 1) (pc := 61) dX10_put_61 (by decide) ?_
          exact V_iret (pc := 62) dX10_put_62 (Nat.le_of_ble_eq_true rfl) (Nat.le_of_ble_eq_true rfl) (hB _ _ ⟨congrArg (fun z => some (Value.int z)) (by rw [if_pos hi2, if_neg h20, if_pos h34]), by refine Eq.symm ?_; rw [if_pos ⟨hi2, h20, h34⟩]; first | (rw [if_pos h51] <;> rfl) | (rw [if_neg h51] <;> rfl)⟩)
        · skip
          refine V_iload_n (pc := 54) dX10_put_54 4 rfl rfl ?_
          refine V_i2s (pc := 55) dX10_put_55 rfl ?_
          refine V_goto (pc := 56) (tgt := 60) dX10_put_56 (by decide) ?_
          refine Xs_it (pc := 60) (by exact hs2) dX10_put_60 (by exact (hasIn h34.1 h34.2.2.1 h34.2.2.2).2.2.2) ?_
          refine V_iconst (v := 1) (pc := 61) dX10_put_61 (by decide) ?_
          exact V_iret (pc := 62) dX10_put_62 (Nat.le_of_ble_eq_true rfl) (Nat.le_of_ble_eq_true rfl) (hB _ _ ⟨congrArg (fun z => some (Value.int z)) (by rw [if_pos hi2, if_neg h20, if_pos h34]), by refine Eq.symm ?_; rw [if_pos ⟨hi2, h20, h34⟩]; first | (rw [if_pos h51] <;> rfl) | (rw [if_neg h51] <;> rfl)⟩)
      · skip
        refine V_bipush (v := (-12)) (pc := 37) dX10_put_37 (by decide) ?_
        exact V_iret (pc := 39) dX10_put_39 (Nat.le_of_ble_eq_true rfl) (Nat.le_of_ble_eq_true rfl) (hB _ _ ⟨congrArg (fun z => some (Value.int z)) (by rw [if_pos hi2, if_neg h20, if_neg h34]), by exact (if_neg (fun h => h34 h.2.2)).symm⟩)
    · skip
      refine V_bipush (v := (-11)) (pc := 23) dX10_put_23 (by decide) ?_
      exact V_iret (pc := 25) dX10_put_25 (Nat.le_of_ble_eq_true rfl) (Nat.le_of_ble_eq_true rfl) (hB _ _ ⟨congrArg (fun z => some (Value.int z)) (by rw [if_pos hi2, if_pos h20]), by exact (if_neg (fun h => h.2.1 h20)).symm⟩)
  · skip
    refine V_astoreN (L2 := [(0, .ref (Z.2.2.2 99)), (1, .int a_), (2, .int i_), (3, .int v_)]) (pc := 5) dX10_put_5  (by decide) rfl ?_
    refine V_aloadN (pc := 7) dX10_put_7 0 rfl ?_
    refine V_ifnonnullN (pc := 9) dX10_put_9 ?_
    refine V_bipush (v := (-2)) (pc := 12) dX10_put_12 (by decide) ?_
    exact V_iret (pc := 14) dX10_put_14 (Nat.le_of_ble_eq_true rfl) (Nat.le_of_ble_eq_true rfl) (hB _ _ ⟨congrArg (fun z => some (Value.int z)) (by exact (if_neg hno2).symm), by exact (if_neg (fun h => hno2 h.1)).symm⟩)
