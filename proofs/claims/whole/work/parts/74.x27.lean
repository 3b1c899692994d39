theorem nv_s (T : Nat → Int32) (f j : Nat) : nvT T f (j + 1) = if j < 2 then nvT T f j * 10 + T (f + j) - 48 else nvT T f j := rfl
set_option maxHeartbeats 4000000 in
set_option maxRecDepth 100000 in
theorem c_X7_readNumber (Z : VZ) (S : XS) (b_ L_ : Nat) (k_ t_ v_ : Int32) (hL : S.1 31 = nI L_) (hL6 : L_ ≤ 60) (hb : b_ < L_) : CtF XW Z yX7_readNumber cX7_readNumber 4 none 1 0 0 [.ref (Z.2.2.2 5)] (xTk S (nI b_) k_ t_ v_) none (xTk S (nI (skp dgB (S.2.2.1 30) L_ (tkF (S.2.2.1 30) b_))) (if 1 ≤ (tkN (S.2.2.1 30) L_ b_) ∧ (tkN (S.2.2.1 30) L_ b_) ≤ 2 then 2 else 4) t_ (if (S.2.2.1 30) b_ = 45 then -(nvT (S.2.2.1 30) (tkF (S.2.2.1 30) b_) (tkN (S.2.2.1 30) L_ b_)) else (nvT (S.2.2.1 30) (tkF (S.2.2.1 30) b_) (tkN (S.2.2.1 30) L_ b_)))) := by
  refine V_entry (own := RX7) (by decide) rfl (Nat.le_of_ble_eq_true rfl) ?_
  intro B hB
  refine V_sub (L' := [(0, .ref (Z.2.2.2 5))]) [0] rfl ?_
  refine V_aload_n (pc := 0) dX7_readNumber_0 0 rfl rfl ?_
  refine V_aload_n (pc := 1) dX7_readNumber_1 0 rfl rfl ?_
  refine Xg_X7_28 (pc := 2) (v := (nI b_)) rfl dX7_readNumber_2 ?_
  refine V_callVi (q0 := 13) (ci := 7) (C := RX7) (T := TX7) (N := 9) (pc := 5) dX7_readNumber_5 (c_X7_byteAt Z _ (b_) L_ (by exact hL) (by exact hL6) (by omega)) kX7_51 rfl rfl rfl rfl (Nat.le_of_ble_eq_true rfl) (by decide) (by decide) (Nat.le_of_ble_eq_true rfl) (Nat.le_of_ble_eq_true rfl) ?_
  refine V_eqi ((S.2.2.1 30) b_) (if_pos hb) ?_
  refine V_bipush (v := 45) (pc := 8) dX7_readNumber_8 (by decide) ?_
  refine V_icmp_ne (pc := 10) (tgt := 17) dX7_readNumber_10 (by decide) (fun h10 => ?_) (fun h10 => ?_)
  · skip
    have eF : tkF (S.2.2.1 30) b_ = b_ := by unfold tkF; rw [if_neg h10, Nat.add_zero]
    refine V_iconst (v := 0) (pc := 17) dX7_readNumber_17 (by decide) ?_
    refine V_istore_n (pc := 18) (L2 := [(0, .ref (Z.2.2.2 5))]) dX7_readNumber_18 rfl (by decide) rfl (fun x1_18 ex1_18 => ?_)
    subst ex1_18
    refine V_iload_n (pc := 19) dX7_readNumber_19 0 rfl rfl ?_
    refine V_if_eq (pc := 20) (tgt := 33) dX7_readNumber_20 (by decide) (fun h20 => ?_) (fun h20 => ?_)
    · skip
      refine V_iconst (v := 0) (pc := 33) dX7_readNumber_33 (by decide) ?_
      refine V_istore_n (pc := 34) (L2 := [(1, .int 0), (0, .ref (Z.2.2.2 5))]) dX7_readNumber_34 rfl (by decide) rfl (fun x2_34 ex2_34 => ?_)
      subst ex2_34
      refine V_iconst (v := 0) (pc := 35) dX7_readNumber_35 (by decide) ?_
      refine V_istore_n (pc := 36) (L2 := [(2, .int 0), (1, .int 0), (0, .ref (Z.2.2.2 5))]) dX7_readNumber_36 rfl (by decide) rfl (fun x3_36 ex3_36 => ?_)
      subst ex3_36
      refine V_eqS (xTk S (nI (b_ + 0)) k_ t_ v_) rfl ?_
      refine V_sub (L' := [(3, .int 0), (2, .int (nI 0)), (1, .int 0), (0, .ref (Z.2.2.2 5))]) [0, 1, 2, 3] rfl ?_
      refine Vloop (σ := Nat × Int32) (fun x => b_ + (x.1) ≤ L_ ∧ skp dgB (S.2.2.1 30) L_ (b_ + (x.1)) = skp dgB (S.2.2.1 30) L_ b_ ∧ (x.2) = nvT (S.2.2.1 30) b_ (x.1)) (fun x => L_ + 1 - (x.1)) (fun x => V XW Z cX7_readNumber RX7 4 none 1 0 0 B 0 0 37 [(3, .int (x.2)), (2, .int (nI (x.1))), (1, .int 0), (0, .ref (Z.2.2.2 5))] [] (xTk S (nI (b_ + (x.1))) k_ t_ v_)) ?_ (0, 0) (by exact ⟨by omega, rfl, rfl⟩)
      rintro ⟨j, u⟩ hI37 ih37
      have hI37 : b_ + j ≤ L_ ∧ skp dgB (S.2.2.1 30) L_ (b_ + j) = skp dgB (S.2.2.1 30) L_ b_ ∧ u = nvT (S.2.2.1 30) b_ j := hI37
      show V XW Z cX7_readNumber RX7 4 none 1 0 0 B 0 0 37 [(3, .int u), (2, .int (nI j)), (1, .int 0), (0, .ref (Z.2.2.2 5))] [] (xTk S (nI (b_ + j)) k_ t_ v_)
      refine V_aload_n (pc := 37) dX7_readNumber_37 3 rfl rfl ?_
      refine Xg_X7_28 (pc := 38) (v := (nI (b_ + j))) rfl dX7_readNumber_38 ?_
      refine V_aload_n (pc := 41) dX7_readNumber_41 3 rfl rfl ?_
      refine Xg_X7_15 (pc := 42) (v := (nI L_)) hL dX7_readNumber_42 ?_
      refine V_icmp_ge (pc := 45) (tgt := 104) dX7_readNumber_45 (by decide) (fun h45 => ?_) (fun h45 => ?_)
      · skip
        have hj : ¬ b_ + j < L_ := Nat.not_lt.mpr ((nI_leI (by omega) (by omega)).mp h45)
        have hE : skp dgB (S.2.2.1 30) L_ b_ = b_ + j := by rw [← hI37.2.1]; exact skp_f (fun h => hj h.1)
        have hN : (tkN (S.2.2.1 30) L_ b_) = j := by unfold tkN; rw [eF, hE]; omega
        refine V_aload_n (pc := 104) dX7_readNumber_104 3 rfl rfl ?_
        refine V_iload_n (pc := 105) dX7_readNumber_105 1 rfl rfl ?_
        refine V_iconst (v := 1) (pc := 106) dX7_readNumber_106 (by decide) ?_
        refine V_icmp_lt (pc := 107) (tgt := 119) dX7_readNumber_107 (by decide) (fun h107 => ?_) (fun h107 => ?_)
        · skip
          have hK : ¬ (1 ≤ j ∧ j ≤ 2) := fun h => absurd (nI_le (a := 1) h.1 (by omega)) (Int32.not_le.mpr h107)
          refine V_iconst (v := 4) (pc := 119) dX7_readNumber_119 (by decide) ?_
          refine Xp_X7_31 (pc := 120) dX7_readNumber_120 ?_
          refine V_eqS _ (xTk_k S _ _ _ _ _) ?_
          refine V_aload_n (pc := 123) dX7_readNumber_123 3 rfl rfl ?_
          refine V_iload_n (pc := 124) dX7_readNumber_124 2 rfl rfl ?_
          refine V_if_eq (pc := 125) (tgt := 133) dX7_readNumber_125 (by decide) (fun h125 => ?_) (fun h125 => ?_)
          · skip
            refine V_iload_n (pc := 133) dX7_readNumber_133 0 rfl rfl ?_
            refine Xp_X7_37 (pc := 134) dX7_readNumber_134 ?_
            refine V_eqS _ (xTk_v S _ _ _ _ _) ?_
            exact V_vret (pc := 137) dX7_readNumber_137 (Nat.le_of_ble_eq_true rfl) (Nat.le_of_ble_eq_true rfl) (hB _ _ ⟨rfl, by rw [hN, eF, hE, hI37.2.2]; first | (rw [if_pos hK, if_pos h10]; done) | (rw [if_pos hK, if_neg h10]; done) | (rw [if_neg hK, if_pos h10]; done) | (rw [if_neg hK, if_neg h10]; done)⟩)
          · skip
            first | exact absurd h125 (by decide) | exact absurd rfl h125
        · skip
          refine V_iload_n (pc := 110) dX7_readNumber_110 1 rfl rfl ?_
          refine V_iconst (v := 2) (pc := 111) dX7_readNumber_111 (by decide) ?_
          refine V_icmp_gt (pc := 112) (tgt := 119) dX7_readNumber_112 (by decide) (fun h112 => ?_) (fun h112 => ?_)
          · skip
            have hK : ¬ (1 ≤ j ∧ j ≤ 2) := fun h => absurd (nI_le (b := 2) h.2 (by decide)) (Int32.not_le.mpr h112)
            refine V_iconst (v := 4) (pc := 119) dX7_readNumber_119 (by decide) ?_
            refine Xp_X7_31 (pc := 120) dX7_readNumber_120 ?_
            refine V_eqS _ (xTk_k S _ _ _ _ _) ?_
            refine V_aload_n (pc := 123) dX7_readNumber_123 3 rfl rfl ?_
            refine V_iload_n (pc := 124) dX7_readNumber_124 2 rfl rfl ?_
            refine V_if_eq (pc := 125) (tgt := 133) dX7_readNumber_125 (by decide) (fun h125 => ?_) (fun h125 => ?_)
            · skip
              refine V_iload_n (pc := 133) dX7_readNumber_133 0 rfl rfl ?_
              refine Xp_X7_37 (pc := 134) dX7_readNumber_134 ?_
              refine V_eqS _ (xTk_v S _ _ _ _ _) ?_
              exact V_vret (pc := 137) dX7_readNumber_137 (Nat.le_of_ble_eq_true rfl) (Nat.le_of_ble_eq_true rfl) (hB _ _ ⟨rfl, by rw [hN, eF, hE, hI37.2.2]; first | (rw [if_pos hK, if_pos h10]; done) | (rw [if_pos hK, if_neg h10]; done) | (rw [if_neg hK, if_pos h10]; done) | (rw [if_neg hK, if_neg h10]; done)⟩)
            · skip
              first | exact absurd h125 (by decide) | exact absurd rfl h125
          · skip
            have hK : 1 ≤ j ∧ j ≤ 2 := ⟨(nI_leI (a := 1) (by decide) (by omega)).mp (Int32.not_lt.mp h107), (nI_leI (b := 2) (by omega) (by decide)).mp (Int32.not_lt.mp h112)⟩
            refine V_iconst (v := 2) (pc := 115) dX7_readNumber_115 (by decide) ?_
            refine V_goto (pc := 116) (tgt := 120) dX7_readNumber_116 (by decide) ?_
            refine Xp_X7_31 (pc := 120) dX7_readNumber_120 ?_
            refine V_eqS _ (xTk_k S _ _ _ _ _) ?_
            refine V_aload_n (pc := 123) dX7_readNumber_123 3 rfl rfl ?_
            refine V_iload_n (pc := 124) dX7_readNumber_124 2 rfl rfl ?_
            refine V_if_eq (pc := 125) (tgt := 133) dX7_readNumber_125 (by decide) (fun h125 => ?_) (fun h125 => ?_)
            · skip
              refine V_iload_n (pc := 133) dX7_readNumber_133 0 rfl rfl ?_
              refine Xp_X7_37 (pc := 134) dX7_readNumber_134 ?_
              refine V_eqS _ (xTk_v S _ _ _ _ _) ?_
              exact V_vret (pc := 137) dX7_readNumber_137 (Nat.le_of_ble_eq_true rfl) (Nat.le_of_ble_eq_true rfl) (hB _ _ ⟨rfl, by rw [hN, eF, hE, hI37.2.2]; first | (rw [if_pos hK, if_pos h10]; done) | (rw [if_pos hK, if_neg h10]; done) | (rw [if_neg hK, if_pos h10]; done) | (rw [if_neg hK, if_neg h10]; done)⟩)
            · skip
              first | exact absurd h125 (by decide) | exact absurd rfl h125
      · skip
        have hj : b_ + j < L_ := Nat.not_le.mp (fun q => h45 (nI_le q (by omega)))
        refine V_aload_n (pc := 48) dX7_readNumber_48 3 rfl rfl ?_
        refine V_aload_n (pc := 49) dX7_readNumber_49 3 rfl rfl ?_
        refine Xg_X7_28 (pc := 50) (v := (nI (b_ + j))) rfl dX7_readNumber_50 ?_
        refine V_callVi (q0 := 13) (ci := 7) (C := RX7) (T := TX7) (N := 9) (pc := 53) dX7_readNumber_53 (c_X7_byteAt Z _ (b_ + j) L_ (by exact hL) (by exact hL6) (by omega)) kX7_51 rfl rfl rfl rfl (Nat.le_of_ble_eq_true rfl) (by decide) (by decide) (Nat.le_of_ble_eq_true rfl) (Nat.le_of_ble_eq_true rfl) ?_
        refine V_eqi ((S.2.2.1 30) (b_ + j)) (if_pos hj) ?_
        refine V_callSi (pc := 56) dX7_readNumber_56 (c_X7_isDigit Z _ _) kX7_60 rfl (Nat.le_of_ble_eq_true rfl) (by decide) (by decide) (Nat.le_of_ble_eq_true rfl) (Nat.le_of_ble_eq_true rfl) ?_
        refine V_bif_eq (pc := 59) (tgt := 104) dX7_readNumber_59 (by decide) (fun h59 => ?_) (fun h59 => ?_)
        · skip
          have hE : skp dgB (S.2.2.1 30) L_ b_ = b_ + j := by rw [← hI37.2.1]; exact skp_f (fun h => h59 h.2)
          have hN : (tkN (S.2.2.1 30) L_ b_) = j := by unfold tkN; rw [eF, hE]; omega
          refine V_aload_n (pc := 104) dX7_readNumber_104 3 rfl rfl ?_
          refine V_iload_n (pc := 105) dX7_readNumber_105 1 rfl rfl ?_
          refine V_iconst (v := 1) (pc := 106) dX7_readNumber_106 (by decide) ?_
          refine V_icmp_lt (pc := 107) (tgt := 119) dX7_readNumber_107 (by decide) (fun h107 => ?_) (fun h107 => ?_)
          · skip
            have hK : ¬ (1 ≤ j ∧ j ≤ 2) := fun h => absurd (nI_le (a := 1) h.1 (by omega)) (Int32.not_le.mpr h107)
            refine V_iconst (v := 4) (pc := 119) dX7_readNumber_119 (by decide) ?_
            refine Xp_X7_31 (pc := 120) dX7_readNumber_120 ?_
            refine V_eqS _ (xTk_k S _ _ _ _ _) ?_
            refine V_aload_n (pc := 123) dX7_readNumber_123 3 rfl rfl ?_
            refine V_iload_n (pc := 124) dX7_readNumber_124 2 rfl rfl ?_
            refine V_if_eq (pc := 125) (tgt := 133) dX7_readNumber_125 (by decide) (fun h125 => ?_) (fun h125 => ?_)
            · skip
              refine V_iload_n (pc := 133) dX7_readNumber_133 0 rfl rfl ?_
              refine Xp_X7_37 (pc := 134) dX7_readNumber_134 ?_
              refine V_eqS _ (xTk_v S _ _ _ _ _) ?_
              exact V_vret (pc := 137) dX7_readNumber_137 (Nat.le_of_ble_eq_true rfl) (Nat.le_of_ble_eq_true rfl) (hB _ _ ⟨rfl, by rw [hN, eF, hE, hI37.2.2]; first | (rw [if_pos hK, if_pos h10]; done) | (rw [if_pos hK, if_neg h10]; done) | (rw [if_neg hK, if_pos h10]; done) | (rw [if_neg hK, if_neg h10]; done)⟩)
            · skip
              first | exact absurd h125 (by decide) | exact absurd rfl h125
          · skip
            refine V_iload_n (pc := 110) dX7_readNumber_110 1 rfl rfl ?_
            refine V_iconst (v := 2) (pc := 111) dX7_readNumber_111 (by decide) ?_
            refine V_icmp_gt (pc := 112) (tgt := 119) dX7_readNumber_112 (by decide) (fun h112 => ?_) (fun h112 => ?_)
            · skip
              have hK : ¬ (1 ≤ j ∧ j ≤ 2) := fun h => absurd (nI_le (b := 2) h.2 (by decide)) (Int32.not_le.mpr h112)
              refine V_iconst (v := 4) (pc := 119) dX7_readNumber_119 (by decide) ?_
              refine Xp_X7_31 (pc := 120) dX7_readNumber_120 ?_
              refine V_eqS _ (xTk_k S _ _ _ _ _) ?_
              refine V_aload_n (pc := 123) dX7_readNumber_123 3 rfl rfl ?_
              refine V_iload_n (pc := 124) dX7_readNumber_124 2 rfl rfl ?_
              refine V_if_eq (pc := 125) (tgt := 133) dX7_readNumber_125 (by decide) (fun h125 => ?_) (fun h125 => ?_)
              · skip
                refine V_iload_n (pc := 133) dX7_readNumber_133 0 rfl rfl ?_
                refine Xp_X7_37 (pc := 134) dX7_readNumber_134 ?_
                refine V_eqS _ (xTk_v S _ _ _ _ _) ?_
                exact V_vret (pc := 137) dX7_readNumber_137 (Nat.le_of_ble_eq_true rfl) (Nat.le_of_ble_eq_true rfl) (hB _ _ ⟨rfl, by rw [hN, eF, hE, hI37.2.2]; first | (rw [if_pos hK, if_pos h10]; done) | (rw [if_pos hK, if_neg h10]; done) | (rw [if_neg hK, if_pos h10]; done) | (rw [if_neg hK, if_neg h10]; done)⟩)
              · skip
                first | exact absurd h125 (by decide) | exact absurd rfl h125
            · skip
              have hK : 1 ≤ j ∧ j ≤ 2 := ⟨(nI_leI (a := 1) (by decide) (by omega)).mp (Int32.not_lt.mp h107), (nI_leI (b := 2) (by omega) (by decide)).mp (Int32.not_lt.mp h112)⟩
              refine V_iconst (v := 2) (pc := 115) dX7_readNumber_115 (by decide) ?_
              refine V_goto (pc := 116) (tgt := 120) dX7_readNumber_116 (by decide) ?_
              refine Xp_X7_31 (pc := 120) dX7_readNumber_120 ?_
              refine V_eqS _ (xTk_k S _ _ _ _ _) ?_
              refine V_aload_n (pc := 123) dX7_readNumber_123 3 rfl rfl ?_
              refine V_iload_n (pc := 124) dX7_readNumber_124 2 rfl rfl ?_
              refine V_if_eq (pc := 125) (tgt := 133) dX7_readNumber_125 (by decide) (fun h125 => ?_) (fun h125 => ?_)
              · skip
                refine V_iload_n (pc := 133) dX7_readNumber_133 0 rfl rfl ?_
                refine Xp_X7_37 (pc := 134) dX7_readNumber_134 ?_
                refine V_eqS _ (xTk_v S _ _ _ _ _) ?_
                exact V_vret (pc := 137) dX7_readNumber_137 (Nat.le_of_ble_eq_true rfl) (Nat.le_of_ble_eq_true rfl) (hB _ _ ⟨rfl, by rw [hN, eF, hE, hI37.2.2]; first | (rw [if_pos hK, if_pos h10]; done) | (rw [if_pos hK, if_neg h10]; done) | (rw [if_neg hK, if_pos h10]; done) | (rw [if_neg hK, if_neg h10]; done)⟩)
              · skip
                first | exact absurd h125 (by decide) | exact absurd rfl h125
        · skip
          refine V_iload_n (pc := 62) dX7_readNumber_62 1 rfl rfl ?_
          refine V_iconst (v := 2) (pc := 63) dX7_readNumber_63 (by decide) ?_
          refine V_icmp_ge (pc := 64) (tgt := 86) dX7_readNumber_64 (by decide) (fun h64 => ?_) (fun h64 => ?_)
          · skip
            have hj2 : 2 ≤ j := (nI_leI (a := 2) (by decide) (by omega)).mp h64
            refine V_iload_n (pc := 86) dX7_readNumber_86 0 rfl rfl ?_
            refine V_istore_n (pc := 87) (L2 := [(2, .int (nI j)), (1, .int 0), (0, .ref (Z.2.2.2 5))]) dX7_readNumber_87 rfl (by decide) rfl (fun x3_87 ex3_87 => ?_)
            subst ex3_87
            refine V_iinc (pc := 88) (v := 1) (L2 := [(3, .int u), (1, .int 0), (0, .ref (Z.2.2.2 5))]) dX7_readNumber_88 1 rfl (by decide) (by decide) rfl (fun x2_88 ex2_88 => ?_)
            rw [nI_1] at ex2_88
            subst ex2_88
            refine V_aload_n (pc := 91) dX7_readNumber_91 3 rfl rfl ?_
            refine V_dup (pc := 92) dX7_readNumber_92 rfl ?_
            refine Xg_X7_28 (pc := 93) (v := (nI (b_ + j))) rfl dX7_readNumber_93 ?_
            refine V_iconst (v := 1) (pc := 96) dX7_readNumber_96 (by decide) ?_
            refine V_iadd (pc := 97) dX7_readNumber_97 ?_
            refine Xp_X7_28 (pc := 98) dX7_readNumber_98 ?_
            refine V_eqS (xTk S (nI (b_ + (j + 1))) k_ t_ v_) (by rw [nI_1]; exact xTk_a S _ _ _ _ _) ?_
            refine V_goto (pc := 101) (tgt := 37) dX7_readNumber_101 (by decide) ?_
            refine V_sub (L' := [(3, .int u), (2, .int (nI (j + 1))), (1, .int 0), (0, .ref (Z.2.2.2 5))]) [1, 0, 2, 3] rfl ?_
            refine ih37 (((j + 1)), _) ?_ ?_
            · refine ⟨by show b_ + (j + 1) ≤ L_; omega, ?_, ?_⟩
              · rw [← hI37.2.1, skp_t hj h59]; rfl
              · show _ = nvT (S.2.2.1 30) b_ (j + 1)
                rw [nv_s]
                first | (rw [if_pos (show j < 2 by omega), hI37.2.2]; done) | (rw [if_neg (show ¬ j < 2 by omega), hI37.2.2]; done)
            · show L_ + 1 - (j + 1) < L_ + 1 - j
              omega
          · skip
            have hj2 : ¬ 2 ≤ j := fun q => h64 (nI_le (a := 2) q (by omega))
            refine V_iload_n (pc := 67) dX7_readNumber_67 0 rfl rfl ?_
            refine V_bipush (v := 10) (pc := 68) dX7_readNumber_68 (by decide) ?_
            refine V_imul (pc := 70) dX7_readNumber_70 ?_
            refine V_aload_n (pc := 71) dX7_readNumber_71 3 rfl rfl ?_
            refine V_aload_n (pc := 72) dX7_readNumber_72 3 rfl rfl ?_
            refine Xg_X7_28 (pc := 73) (v := (nI (b_ + j))) rfl dX7_readNumber_73 ?_
            refine V_callVi (q0 := 13) (ci := 7) (C := RX7) (T := TX7) (N := 9) (pc := 76) dX7_readNumber_76 (c_X7_byteAt Z _ (b_ + j) L_ (by exact hL) (by exact hL6) (by omega)) kX7_51 rfl rfl rfl rfl (Nat.le_of_ble_eq_true rfl) (by decide) (by decide) (Nat.le_of_ble_eq_true rfl) (Nat.le_of_ble_eq_true rfl) ?_
            refine V_eqi ((S.2.2.1 30) (b_ + j)) (if_pos hj) ?_
            refine V_iadd (pc := 79) dX7_readNumber_79 ?_
            refine V_bipush (v := 48) (pc := 80) dX7_readNumber_80 (by decide) ?_
            refine V_isub (pc := 82) dX7_readNumber_82 ?_
            refine V_goto (pc := 83) (tgt := 87) dX7_readNumber_83 (by decide) ?_
            refine V_istore_n (pc := 87) (L2 := [(2, .int (nI j)), (1, .int 0), (0, .ref (Z.2.2.2 5))]) dX7_readNumber_87 rfl (by decide) rfl (fun x3_87 ex3_87 => ?_)
            subst ex3_87
            refine V_iinc (pc := 88) (v := 1) (L2 := [(3, .int (((u * 10) + ((S.2.2.1 30) (b_ + j))) - 48)), (1, .int 0), (0, .ref (Z.2.2.2 5))]) dX7_readNumber_88 1 rfl (by decide) (by decide) rfl (fun x2_88 ex2_88 => ?_)
            rw [nI_1] at ex2_88
            subst ex2_88
            refine V_aload_n (pc := 91) dX7_readNumber_91 3 rfl rfl ?_
            refine V_dup (pc := 92) dX7_readNumber_92 rfl ?_
            refine Xg_X7_28 (pc := 93) (v := (nI (b_ + j))) rfl dX7_readNumber_93 ?_
            refine V_iconst (v := 1) (pc := 96) dX7_readNumber_96 (by decide) ?_
            refine V_iadd (pc := 97) dX7_readNumber_97 ?_
            refine Xp_X7_28 (pc := 98) dX7_readNumber_98 ?_
            refine V_eqS (xTk S (nI (b_ + (j + 1))) k_ t_ v_) (by rw [nI_1]; exact xTk_a S _ _ _ _ _) ?_
            refine V_goto (pc := 101) (tgt := 37) dX7_readNumber_101 (by decide) ?_
            refine V_sub (L' := [(3, .int (((u * 10) + ((S.2.2.1 30) (b_ + j))) - 48)), (2, .int (nI (j + 1))), (1, .int 0), (0, .ref (Z.2.2.2 5))]) [1, 0, 2, 3] rfl ?_
            refine ih37 (((j + 1)), _) ?_ ?_
            · refine ⟨by show b_ + (j + 1) ≤ L_; omega, ?_, ?_⟩
              · rw [← hI37.2.1, skp_t hj h59]; rfl
              · show _ = nvT (S.2.2.1 30) b_ (j + 1)
                rw [nv_s]
                first | (rw [if_pos (show j < 2 by omega), hI37.2.2]; done) | (rw [if_neg (show ¬ j < 2 by omega), hI37.2.2]; done)
            · show L_ + 1 - (j + 1) < L_ + 1 - j
              omega
    · skip
      first | exact absurd h20 (by decide) | exact absurd rfl h20
  · skip
    have eF : tkF (S.2.2.1 30) b_ = b_ + 1 := by unfold tkF; rw [if_pos h10]
    refine V_iconst (v := 1) (pc := 13) dX7_readNumber_13 (by decide) ?_
    refine V_goto (pc := 14) (tgt := 18) dX7_readNumber_14 (by decide) ?_
    refine V_istore_n (pc := 18) (L2 := [(0, .ref (Z.2.2.2 5))]) dX7_readNumber_18 rfl (by decide) rfl (fun x1_18 ex1_18 => ?_)
    subst ex1_18
    refine V_iload_n (pc := 19) dX7_readNumber_19 0 rfl rfl ?_
    refine V_if_eq (pc := 20) (tgt := 33) dX7_readNumber_20 (by decide) (fun h20 => ?_) (fun h20 => ?_)
    · skip
      first | exact absurd h20 (by decide) | exact absurd rfl h20
    · skip
      refine V_aload_n (pc := 23) dX7_readNumber_23 1 rfl rfl ?_
      refine V_dup (pc := 24) dX7_readNumber_24 rfl ?_
      refine Xg_X7_28 (pc := 25) (v := (nI b_)) rfl dX7_readNumber_25 ?_
      refine V_iconst (v := 1) (pc := 28) dX7_readNumber_28 (by decide) ?_
      refine V_iadd (pc := 29) dX7_readNumber_29 ?_
      refine Xp_X7_28 (pc := 30) dX7_readNumber_30 ?_
      refine V_eqS (xTk S (nI (b_ + 1)) k_ t_ v_) (by rw [nI_1]; exact xTk_a S _ _ _ _ _) ?_
      refine V_iconst (v := 0) (pc := 33) dX7_readNumber_33 (by decide) ?_
      refine V_istore_n (pc := 34) (L2 := [(1, .int 1), (0, .ref (Z.2.2.2 5))]) dX7_readNumber_34 rfl (by decide) rfl (fun x2_34 ex2_34 => ?_)
      subst ex2_34
      refine V_iconst (v := 0) (pc := 35) dX7_readNumber_35 (by decide) ?_
      refine V_istore_n (pc := 36) (L2 := [(2, .int 0), (1, .int 1), (0, .ref (Z.2.2.2 5))]) dX7_readNumber_36 rfl (by decide) rfl (fun x3_36 ex3_36 => ?_)
      subst ex3_36
      refine V_eqS (xTk S (nI ((b_ + 1) + 0)) k_ t_ v_) rfl ?_
      refine V_sub (L' := [(3, .int 0), (2, .int (nI 0)), (1, .int 1), (0, .ref (Z.2.2.2 5))]) [0, 1, 2, 3] rfl ?_
      refine Vloop (σ := Nat × Int32) (fun x => (b_ + 1) + (x.1) ≤ L_ ∧ skp dgB (S.2.2.1 30) L_ ((b_ + 1) + (x.1)) = skp dgB (S.2.2.1 30) L_ (b_ + 1) ∧ (x.2) = nvT (S.2.2.1 30) (b_ + 1) (x.1)) (fun x => L_ + 1 - (x.1)) (fun x => V XW Z cX7_readNumber RX7 4 none 1 0 0 B 0 0 37 [(3, .int (x.2)), (2, .int (nI (x.1))), (1, .int 1), (0, .ref (Z.2.2.2 5))] [] (xTk S (nI ((b_ + 1) + (x.1))) k_ t_ v_)) ?_ (0, 0) (by exact ⟨by omega, rfl, rfl⟩)
      rintro ⟨j, u⟩ hI37 ih37
      have hI37 : (b_ + 1) + j ≤ L_ ∧ skp dgB (S.2.2.1 30) L_ ((b_ + 1) + j) = skp dgB (S.2.2.1 30) L_ (b_ + 1) ∧ u = nvT (S.2.2.1 30) (b_ + 1) j := hI37
      show V XW Z cX7_readNumber RX7 4 none 1 0 0 B 0 0 37 [(3, .int u), (2, .int (nI j)), (1, .int 1), (0, .ref (Z.2.2.2 5))] [] (xTk S (nI ((b_ + 1) + j)) k_ t_ v_)
      refine V_aload_n (pc := 37) dX7_readNumber_37 3 rfl rfl ?_
      refine Xg_X7_28 (pc := 38) (v := (nI ((b_ + 1) + j))) rfl dX7_readNumber_38 ?_
      refine V_aload_n (pc := 41) dX7_readNumber_41 3 rfl rfl ?_
      refine Xg_X7_15 (pc := 42) (v := (nI L_)) hL dX7_readNumber_42 ?_
      refine V_icmp_ge (pc := 45) (tgt := 104) dX7_readNumber_45 (by decide) (fun h45 => ?_) (fun h45 => ?_)
      · skip
        have hj : ¬ (b_ + 1) + j < L_ := Nat.not_lt.mpr ((nI_leI (by omega) (by omega)).mp h45)
        have hE : skp dgB (S.2.2.1 30) L_ (b_ + 1) = (b_ + 1) + j := by rw [← hI37.2.1]; exact skp_f (fun h => hj h.1)
        have hN : (tkN (S.2.2.1 30) L_ b_) = j := by unfold tkN; rw [eF, hE]; omega
        refine V_aload_n (pc := 104) dX7_readNumber_104 3 rfl rfl ?_
        refine V_iload_n (pc := 105) dX7_readNumber_105 1 rfl rfl ?_
        refine V_iconst (v := 1) (pc := 106) dX7_readNumber_106 (by decide) ?_
        refine V_icmp_lt (pc := 107) (tgt := 119) dX7_readNumber_107 (by decide) (fun h107 => ?_) (fun h107 => ?_)
        · skip
          have hK : ¬ (1 ≤ j ∧ j ≤ 2) := fun h => absurd (nI_le (a := 1) h.1 (by omega)) (Int32.not_le.mpr h107)
          refine V_iconst (v := 4) (pc := 119) dX7_readNumber_119 (by decide) ?_
          refine Xp_X7_31 (pc := 120) dX7_readNumber_120 ?_
          refine V_eqS _ (xTk_k S _ _ _ _ _) ?_
          refine V_aload_n (pc := 123) dX7_readNumber_123 3 rfl rfl ?_
          refine V_iload_n (pc := 124) dX7_readNumber_124 2 rfl rfl ?_
          refine V_if_eq (pc := 125) (tgt := 133) dX7_readNumber_125 (by decide) (fun h125 => ?_) (fun h125 => ?_)
          · skip
            first | exact absurd h125 (by decide) | exact absurd rfl h125
          · skip
            refine V_iload_n (pc := 128) dX7_readNumber_128 0 rfl rfl ?_
            refine V_ineg (pc := 129) dX7_readNumber_129 ?_
            refine V_goto (pc := 130) (tgt := 134) dX7_readNumber_130 (by decide) ?_
            refine Xp_X7_37 (pc := 134) dX7_readNumber_134 ?_
            refine V_eqS _ (xTk_v S _ _ _ _ _) ?_
            exact V_vret (pc := 137) dX7_readNumber_137 (Nat.le_of_ble_eq_true rfl) (Nat.le_of_ble_eq_true rfl) (hB _ _ ⟨rfl, by rw [hN, eF, hE, hI37.2.2]; first | (rw [if_pos hK, if_pos h10]; done) | (rw [if_pos hK, if_neg h10]; done) | (rw [if_neg hK, if_pos h10]; done) | (rw [if_neg hK, if_neg h10]; done)⟩)
        · skip
          refine V_iload_n (pc := 110) dX7_readNumber_110 1 rfl rfl ?_
          refine V_iconst (v := 2) (pc := 111) dX7_readNumber_111 (by decide) ?_
          refine V_icmp_gt (pc := 112) (tgt := 119) dX7_readNumber_112 (by decide) (fun h112 => ?_) (fun h112 => ?_)
          · skip
            have hK : ¬ (1 ≤ j ∧ j ≤ 2) := fun h => absurd (nI_le (b := 2) h.2 (by decide)) (Int32.not_le.mpr h112)
            refine V_iconst (v := 4) (pc := 119) dX7_readNumber_119 (by decide) ?_
            refine Xp_X7_31 (pc := 120) dX7_readNumber_120 ?_
            refine V_eqS _ (xTk_k S _ _ _ _ _) ?_
            refine V_aload_n (pc := 123) dX7_readNumber_123 3 rfl rfl ?_
            refine V_iload_n (pc := 124) dX7_readNumber_124 2 rfl rfl ?_
            refine V_if_eq (pc := 125) (tgt := 133) dX7_readNumber_125 (by decide) (fun h125 => ?_) (fun h125 => ?_)
            · skip
              first | exact absurd h125 (by decide) | exact absurd rfl h125
            · skip
              refine V_iload_n (pc := 128) dX7_readNumber_128 0 rfl rfl ?_
              refine V_ineg (pc := 129) dX7_readNumber_129 ?_
              refine V_goto (pc := 130) (tgt := 134) dX7_readNumber_130 (by decide) ?_
              refine Xp_X7_37 (pc := 134) dX7_readNumber_134 ?_
              refine V_eqS _ (xTk_v S _ _ _ _ _) ?_
              exact V_vret (pc := 137) dX7_readNumber_137 (Nat.le_of_ble_eq_true rfl) (Nat.le_of_ble_eq_true rfl) (hB _ _ ⟨rfl, by rw [hN, eF, hE, hI37.2.2]; first | (rw [if_pos hK, if_pos h10]; done) | (rw [if_pos hK, if_neg h10]; done) | (rw [if_neg hK, if_pos h10]; done) | (rw [if_neg hK, if_neg h10]; done)⟩)
          · skip
            have hK : 1 ≤ j ∧ j ≤ 2 := ⟨(nI_leI (a := 1) (by decide) (by omega)).mp (Int32.not_lt.mp h107), (nI_leI (b := 2) (by omega) (by decide)).mp (Int32.not_lt.mp h112)⟩
            refine V_iconst (v := 2) (pc := 115) dX7_readNumber_115 (by decide) ?_
            refine V_goto (pc := 116) (tgt := 120) dX7_readNumber_116 (by decide) ?_
            refine Xp_X7_31 (pc := 120) dX7_readNumber_120 ?_
            refine V_eqS _ (xTk_k S _ _ _ _ _) ?_
            refine V_aload_n (pc := 123) dX7_readNumber_123 3 rfl rfl ?_
            refine V_iload_n (pc := 124) dX7_readNumber_124 2 rfl rfl ?_
            refine V_if_eq (pc := 125) (tgt := 133) dX7_readNumber_125 (by decide) (fun h125 => ?_) (fun h125 => ?_)
            · skip
              first | exact absurd h125 (by decide) | exact absurd rfl h125
            · skip
              refine V_iload_n (pc := 128) dX7_readNumber_128 0 rfl rfl ?_
              refine V_ineg (pc := 129) dX7_readNumber_129 ?_
              refine V_goto (pc := 130) (tgt := 134) dX7_readNumber_130 (by decide) ?_
              refine Xp_X7_37 (pc := 134) dX7_readNumber_134 ?_
              refine V_eqS _ (xTk_v S _ _ _ _ _) ?_
              exact V_vret (pc := 137) dX7_readNumber_137 (Nat.le_of_ble_eq_true rfl) (Nat.le_of_ble_eq_true rfl) (hB _ _ ⟨rfl, by rw [hN, eF, hE, hI37.2.2]; first | (rw [if_pos hK, if_pos h10]; done) | (rw [if_pos hK, if_neg h10]; done) | (rw [if_neg hK, if_pos h10]; done) | (rw [if_neg hK, if_neg h10]; done)⟩)
      · skip
        have hj : (b_ + 1) + j < L_ := Nat.not_le.mp (fun q => h45 (nI_le q (by omega)))
        refine V_aload_n (pc := 48) dX7_readNumber_48 3 rfl rfl ?_
        refine V_aload_n (pc := 49) dX7_readNumber_49 3 rfl rfl ?_
        refine Xg_X7_28 (pc := 50) (v := (nI ((b_ + 1) + j))) rfl dX7_readNumber_50 ?_
        refine V_callVi (q0 := 13) (ci := 7) (C := RX7) (T := TX7) (N := 9) (pc := 53) dX7_readNumber_53 (c_X7_byteAt Z _ ((b_ + 1) + j) L_ (by exact hL) (by exact hL6) (by omega)) kX7_51 rfl rfl rfl rfl (Nat.le_of_ble_eq_true rfl) (by decide) (by decide) (Nat.le_of_ble_eq_true rfl) (Nat.le_of_ble_eq_true rfl) ?_
        refine V_eqi ((S.2.2.1 30) ((b_ + 1) + j)) (if_pos hj) ?_
        refine V_callSi (pc := 56) dX7_readNumber_56 (c_X7_isDigit Z _ _) kX7_60 rfl (Nat.le_of_ble_eq_true rfl) (by decide) (by decide) (Nat.le_of_ble_eq_true rfl) (Nat.le_of_ble_eq_true rfl) ?_
        refine V_bif_eq (pc := 59) (tgt := 104) dX7_readNumber_59 (by decide) (fun h59 => ?_) (fun h59 => ?_)
        · skip
          have hE : skp dgB (S.2.2.1 30) L_ (b_ + 1) = (b_ + 1) + j := by rw [← hI37.2.1]; exact skp_f (fun h => h59 h.2)
          have hN : (tkN (S.2.2.1 30) L_ b_) = j := by unfold tkN; rw [eF, hE]; omega
          refine V_aload_n (pc := 104) dX7_readNumber_104 3 rfl rfl ?_
          refine V_iload_n (pc := 105) dX7_readNumber_105 1 rfl rfl ?_
          refine V_iconst (v := 1) (pc := 106) dX7_readNumber_106 (by decide) ?_
          refine V_icmp_lt (pc := 107) (tgt := 119) dX7_readNumber_107 (by decide) (fun h107 => ?_) (fun h107 => ?_)
          · skip
            have hK : ¬ (1 ≤ j ∧ j ≤ 2) := fun h => absurd (nI_le (a := 1) h.1 (by omega)) (Int32.not_le.mpr h107)
            refine V_iconst (v := 4) (pc := 119) dX7_readNumber_119 (by decide) ?_
            refine Xp_X7_31 (pc := 120) dX7_readNumber_120 ?_
            refine V_eqS _ (xTk_k S _ _ _ _ _) ?_
            refine V_aload_n (pc := 123) dX7_readNumber_123 3 rfl rfl ?_
            refine V_iload_n (pc := 124) dX7_readNumber_124 2 rfl rfl ?_
            refine V_if_eq (pc := 125) (tgt := 133) dX7_readNumber_125 (by decide) (fun h125 => ?_) (fun h125 => ?_)
            · skip
              first | exact absurd h125 (by decide) | exact absurd rfl h125
            · skip
              refine V_iload_n (pc := 128) dX7_readNumber_128 0 rfl rfl ?_
              refine V_ineg (pc := 129) dX7_readNumber_129 ?_
              refine V_goto (pc := 130) (tgt := 134) dX7_readNumber_130 (by decide) ?_
              refine Xp_X7_37 (pc := 134) dX7_readNumber_134 ?_
              refine V_eqS _ (xTk_v S _ _ _ _ _) ?_
              exact V_vret (pc := 137) dX7_readNumber_137 (Nat.le_of_ble_eq_true rfl) (Nat.le_of_ble_eq_true rfl) (hB _ _ ⟨rfl, by rw [hN, eF, hE, hI37.2.2]; first | (rw [if_pos hK, if_pos h10]; done) | (rw [if_pos hK, if_neg h10]; done) | (rw [if_neg hK, if_pos h10]; done) | (rw [if_neg hK, if_neg h10]; done)⟩)
          · skip
            refine V_iload_n (pc := 110) dX7_readNumber_110 1 rfl rfl ?_
            refine V_iconst (v := 2) (pc := 111) dX7_readNumber_111 (by decide) ?_
            refine V_icmp_gt (pc := 112) (tgt := 119) dX7_readNumber_112 (by decide) (fun h112 => ?_) (fun h112 => ?_)
            · skip
              have hK : ¬ (1 ≤ j ∧ j ≤ 2) := fun h => absurd (nI_le (b := 2) h.2 (by decide)) (Int32.not_le.mpr h112)
              refine V_iconst (v := 4) (pc := 119) dX7_readNumber_119 (by decide) ?_
              refine Xp_X7_31 (pc := 120) dX7_readNumber_120 ?_
              refine V_eqS _ (xTk_k S _ _ _ _ _) ?_
              refine V_aload_n (pc := 123) dX7_readNumber_123 3 rfl rfl ?_
              refine V_iload_n (pc := 124) dX7_readNumber_124 2 rfl rfl ?_
              refine V_if_eq (pc := 125) (tgt := 133) dX7_readNumber_125 (by decide) (fun h125 => ?_) (fun h125 => ?_)
              · skip
                first | exact absurd h125 (by decide) | exact absurd rfl h125
              · skip
                refine V_iload_n (pc := 128) dX7_readNumber_128 0 rfl rfl ?_
                refine V_ineg (pc := 129) dX7_readNumber_129 ?_
                refine V_goto (pc := 130) (tgt := 134) dX7_readNumber_130 (by decide) ?_
                refine Xp_X7_37 (pc := 134) dX7_readNumber_134 ?_
                refine V_eqS _ (xTk_v S _ _ _ _ _) ?_
                exact V_vret (pc := 137) dX7_readNumber_137 (Nat.le_of_ble_eq_true rfl) (Nat.le_of_ble_eq_true rfl) (hB _ _ ⟨rfl, by rw [hN, eF, hE, hI37.2.2]; first | (rw [if_pos hK, if_pos h10]; done) | (rw [if_pos hK, if_neg h10]; done) | (rw [if_neg hK, if_pos h10]; done) | (rw [if_neg hK, if_neg h10]; done)⟩)
            · skip
              have hK : 1 ≤ j ∧ j ≤ 2 := ⟨(nI_leI (a := 1) (by decide) (by omega)).mp (Int32.not_lt.mp h107), (nI_leI (b := 2) (by omega) (by decide)).mp (Int32.not_lt.mp h112)⟩
              refine V_iconst (v := 2) (pc := 115) dX7_readNumber_115 (by decide) ?_
              refine V_goto (pc := 116) (tgt := 120) dX7_readNumber_116 (by decide) ?_
              refine Xp_X7_31 (pc := 120) dX7_readNumber_120 ?_
              refine V_eqS _ (xTk_k S _ _ _ _ _) ?_
              refine V_aload_n (pc := 123) dX7_readNumber_123 3 rfl rfl ?_
              refine V_iload_n (pc := 124) dX7_readNumber_124 2 rfl rfl ?_
              refine V_if_eq (pc := 125) (tgt := 133) dX7_readNumber_125 (by decide) (fun h125 => ?_) (fun h125 => ?_)
              · skip
                first | exact absurd h125 (by decide) | exact absurd rfl h125
              · skip
                refine V_iload_n (pc := 128) dX7_readNumber_128 0 rfl rfl ?_
                refine V_ineg (pc := 129) dX7_readNumber_129 ?_
                refine V_goto (pc := 130) (tgt := 134) dX7_readNumber_130 (by decide) ?_
                refine Xp_X7_37 (pc := 134) dX7_readNumber_134 ?_
                refine V_eqS _ (xTk_v S _ _ _ _ _) ?_
                exact V_vret (pc := 137) dX7_readNumber_137 (Nat.le_of_ble_eq_true rfl) (Nat.le_of_ble_eq_true rfl) (hB _ _ ⟨rfl, by rw [hN, eF, hE, hI37.2.2]; first | (rw [if_pos hK, if_pos h10]; done) | (rw [if_pos hK, if_neg h10]; done) | (rw [if_neg hK, if_pos h10]; done) | (rw [if_neg hK, if_neg h10]; done)⟩)
        · skip
          refine V_iload_n (pc := 62) dX7_readNumber_62 1 rfl rfl ?_
          refine V_iconst (v := 2) (pc := 63) dX7_readNumber_63 (by decide) ?_
          refine V_icmp_ge (pc := 64) (tgt := 86) dX7_readNumber_64 (by decide) (fun h64 => ?_) (fun h64 => ?_)
          · skip
            have hj2 : 2 ≤ j := (nI_leI (a := 2) (by decide) (by omega)).mp h64
            refine V_iload_n (pc := 86) dX7_readNumber_86 0 rfl rfl ?_
            refine V_istore_n (pc := 87) (L2 := [(2, .int (nI j)), (1, .int 1), (0, .ref (Z.2.2.2 5))]) dX7_readNumber_87 rfl (by decide) rfl (fun x3_87 ex3_87 => ?_)
            subst ex3_87
            refine V_iinc (pc := 88) (v := 1) (L2 := [(3, .int u), (1, .int 1), (0, .ref (Z.2.2.2 5))]) dX7_readNumber_88 1 rfl (by decide) (by decide) rfl (fun x2_88 ex2_88 => ?_)
            rw [nI_1] at ex2_88
            subst ex2_88
            refine V_aload_n (pc := 91) dX7_readNumber_91 3 rfl rfl ?_
            refine V_dup (pc := 92) dX7_readNumber_92 rfl ?_
            refine Xg_X7_28 (pc := 93) (v := (nI ((b_ + 1) + j))) rfl dX7_readNumber_93 ?_
            refine V_iconst (v := 1) (pc := 96) dX7_readNumber_96 (by decide) ?_
            refine V_iadd (pc := 97) dX7_readNumber_97 ?_
            refine Xp_X7_28 (pc := 98) dX7_readNumber_98 ?_
            refine V_eqS (xTk S (nI ((b_ + 1) + (j + 1))) k_ t_ v_) (by rw [nI_1]; exact xTk_a S _ _ _ _ _) ?_
            refine V_goto (pc := 101) (tgt := 37) dX7_readNumber_101 (by decide) ?_
            refine V_sub (L' := [(3, .int u), (2, .int (nI (j + 1))), (1, .int 1), (0, .ref (Z.2.2.2 5))]) [1, 0, 2, 3] rfl ?_
            refine ih37 (((j + 1)), _) ?_ ?_
            · refine ⟨by show (b_ + 1) + (j + 1) ≤ L_; omega, ?_, ?_⟩
              · rw [← hI37.2.1, skp_t hj h59]; rfl
              · show _ = nvT (S.2.2.1 30) (b_ + 1) (j + 1)
                rw [nv_s]
                first | (rw [if_pos (show j < 2 by omega), hI37.2.2]; done) | (rw [if_neg (show ¬ j < 2 by omega), hI37.2.2]; done)
            · show L_ + 1 - (j + 1) < L_ + 1 - j
              omega
          · skip
            have hj2 : ¬ 2 ≤ j := fun q => h64 (nI_le (a := 2) q (by omega))
            refine V_iload_n (pc := 67) dX7_readNumber_67 0 rfl rfl ?_
            refine V_bipush (v := 10) (pc := 68) dX7_readNumber_68 (by decide) ?_
            refine V_imul (pc := 70) dX7_readNumber_70 ?_
            refine V_aload_n (pc := 71) dX7_readNumber_71 3 rfl rfl ?_
            refine V_aload_n (pc := 72) dX7_readNumber_72 3 rfl rfl ?_
            refine Xg_X7_28 (pc := 73) (v := (nI ((b_ + 1) + j))) rfl dX7_readNumber_73 ?_
            refine V_callVi (q0 := 13) (ci := 7) (C := RX7) (T := TX7) (N := 9) (pc := 76) dX7_readNumber_76 (c_X7_byteAt Z _ ((b_ + 1) + j) L_ (by exact hL) (by exact hL6) (by omega)) kX7_51 rfl rfl rfl rfl (Nat.le_of_ble_eq_true rfl) (by decide) (by decide) (Nat.le_of_ble_eq_true rfl) (Nat.le_of_ble_eq_true rfl) ?_
            refine V_eqi ((S.2.2.1 30) ((b_ + 1) + j)) (if_pos hj) ?_
            refine V_iadd (pc := 79) dX7_readNumber_79 ?_
            refine V_bipush (v := 48) (pc := 80) dX7_readNumber_80 (by decide) ?_
            refine V_isub (pc := 82) dX7_readNumber_82 ?_
            refine V_goto (pc := 83) (tgt := 87) dX7_readNumber_83 (by decide) ?_
            refine V_istore_n (pc := 87) (L2 := [(2, .int (nI j)), (1, .int 1), (0, .ref (Z.2.2.2 5))]) dX7_readNumber_87 rfl (by decide) rfl (fun x3_87 ex3_87 => ?_)
            subst ex3_87
            refine V_iinc (pc := 88) (v := 1) (L2 := [(3, .int (((u * 10) + ((S.2.2.1 30) ((b_ + 1) + j))) - 48)), (1, .int 1), (0, .ref (Z.2.2.2 5))]) dX7_readNumber_88 1 rfl (by decide) (by decide) rfl (fun x2_88 ex2_88 => ?_)
            rw [nI_1] at ex2_88
            subst ex2_88
            refine V_aload_n (pc := 91) dX7_readNumber_91 3 rfl rfl ?_
            refine V_dup (pc := 92) dX7_readNumber_92 rfl ?_
            refine Xg_X7_28 (pc := 93) (v := (nI ((b_ + 1) + j))) rfl dX7_readNumber_93 ?_
            refine V_iconst (v := 1) (pc := 96) dX7_readNumber_96 (by decide) ?_
            refine V_iadd (pc := 97) dX7_readNumber_97 ?_
            refine Xp_X7_28 (pc := 98) dX7_readNumber_98 ?_
            refine V_eqS (xTk S (nI ((b_ + 1) + (j + 1))) k_ t_ v_) (by rw [nI_1]; exact xTk_a S _ _ _ _ _) ?_
            refine V_goto (pc := 101) (tgt := 37) dX7_readNumber_101 (by decide) ?_
            refine V_sub (L' := [(3, .int (((u * 10) + ((S.2.2.1 30) ((b_ + 1) + j))) - 48)), (2, .int (nI (j + 1))), (1, .int 1), (0, .ref (Z.2.2.2 5))]) [1, 0, 2, 3] rfl ?_
            refine ih37 (((j + 1)), _) ?_ ?_
            · refine ⟨by show (b_ + 1) + (j + 1) ≤ L_; omega, ?_, ?_⟩
              · rw [← hI37.2.1, skp_t hj h59]; rfl
              · show _ = nvT (S.2.2.1 30) (b_ + 1) (j + 1)
                rw [nv_s]
                first | (rw [if_pos (show j < 2 by omega), hI37.2.2]; done) | (rw [if_neg (show ¬ j < 2 by omega), hI37.2.2]; done)
            · show L_ + 1 - (j + 1) < L_ + 1 - j
              omega
set_option maxHeartbeats 4000000 in
set_option maxRecDepth 100000 in
theorem c_X7_readWord (Z : VZ) (S : XS) (b_ L_ : Nat) (k_ v_ : Int32) (hL : S.1 31 = nI L_) (hL6 : L_ ≤ 60) (hb : b_ ≤ L_) : CtS XW Z yX7_readWord cX7_readWord 2 none 6 0 0 [.ref (Z.2.2.2 5)] (xTk S (nI b_) k_ (nI b_) v_) (fun v S' => v = none ∧ S' = xTk S (nI (skp ltB (S.2.2.1 30) L_ b_)) (if (wdo (S.2.2.1 30) b_ (skp ltB (S.2.2.1 30) L_ b_)) < 6 then 1 else 4) (nI b_) (if (wdo (S.2.2.1 30) b_ (skp ltB (S.2.2.1 30) L_ b_)) < 6 then nI (wdo (S.2.2.1 30) b_ (skp ltB (S.2.2.1 30) L_ b_)) else v_)) := by
  refine V_entryS (own := RX7) (by decide +kernel) rfl (Nat.le_of_ble_eq_true rfl) ?_
  intro B hB hst
  refine V_sub (L' := [(0, .ref (Z.2.2.2 5))]) [0] rfl ?_
  refine Vloop (σ := Nat) (fun x => b_ ≤ x ∧ x ≤ L_ ∧ skp ltB (S.2.2.1 30) L_ x = (skp ltB (S.2.2.1 30) L_ b_)) (fun x => L_ - x) (fun x => V XW Z cX7_readWord RX7 2 none 6 0 0 B 0 0 0 [(0, .ref (Z.2.2.2 5))] [] (xTk S (nI x) k_ (nI b_) v_)) ?_ b_ (by exact ⟨Nat.le_refl _, hb, rfl⟩)
  rintro a hI0 ih0
  have hI0 : b_ ≤ a ∧ a ≤ L_ ∧ skp ltB (S.2.2.1 30) L_ a = (skp ltB (S.2.2.1 30) L_ b_) := hI0
  show V XW Z cX7_readWord RX7 2 none 6 0 0 B 0 0 0 [(0, .ref (Z.2.2.2 5))] [] (xTk S (nI a) k_ (nI b_) v_)
  refine V_aload_n (pc := 0) dX7_readWord_0 0 rfl rfl ?_
  refine Xg_X7_28 (pc := 1) (v := (nI a)) rfl dX7_readWord_1 ?_
  refine V_aload_n (pc := 4) dX7_readWord_4 0 rfl rfl ?_
  refine Xg_X7_15 (pc := 5) (v := (nI L_)) hL dX7_readWord_5 ?_
  refine V_icmp_ge (pc := 8) (tgt := 38) dX7_readWord_8 (by decide) (fun h8 => ?_) (fun h8 => ?_)
  · skip
    have hE : a = (skp ltB (S.2.2.1 30) L_ b_) := by rw [← hI0.2.2]; exact (skp_f (fun h => absurd h.1 (Nat.not_lt.mpr ((nI_leI (by omega) (by omega)).mp h8)))).symm
    refine V_aload_n (pc := 38) dX7_readWord_38 0 rfl rfl ?_
    refine V_iconst (v := 4) (pc := 39) dX7_readWord_39 (by decide) ?_
    refine Xp_X7_31 (pc := 40) dX7_readWord_40 ?_
    refine V_eqS _ (xTk_k S _ _ _ _ _) ?_
    refine V_iconst (v := 0) (pc := 43) dX7_readWord_43 (by decide) ?_
    refine V_istore_n (pc := 44) (L2 := [(0, .ref (Z.2.2.2 5))]) dX7_readWord_44 rfl (by decide) rfl (fun x1_44 ex1_44 => ?_)
    subst ex1_44
    refine V_sub (L' := [(1, .int (nI 0)), (0, .ref (Z.2.2.2 5))]) [0, 1] rfl ?_
    refine Vloop (σ := Int32 × Int32 × Nat) (fun x => (x.2.2) ≤ 6 ∧ ((wdo (S.2.2.1 30) b_ a < (x.2.2) ∧ (x.1) = 1 ∧ (x.2.1) = nI (wdo (S.2.2.1 30) b_ a)) ∨ (¬ wdo (S.2.2.1 30) b_ a < (x.2.2) ∧ (x.1) = 4 ∧ (x.2.1) = v_))) (fun x => 6 - (x.2.2)) (fun x => V XW Z cX7_readWord RX7 2 none 6 0 0 B 0 0 45 [(1, .int (nI (x.2.2))), (0, .ref (Z.2.2.2 5))] [] (xTk S (nI a) (x.1) (nI b_) (x.2.1))) ?_ (4, v_, 0) (by exact ⟨Nat.zero_le _, Or.inr ⟨Nat.not_lt_zero _, rfl, rfl⟩⟩)
    rintro ⟨gk, gv, w⟩ hI45 ih45
    have hI45 : w ≤ 6 ∧ ((wdo (S.2.2.1 30) b_ a < w ∧ gk = 1 ∧ gv = nI (wdo (S.2.2.1 30) b_ a)) ∨ (¬ wdo (S.2.2.1 30) b_ a < w ∧ gk = 4 ∧ gv = v_)) := hI45
    show V XW Z cX7_readWord RX7 2 none 6 0 0 B 0 0 45 [(1, .int (nI w)), (0, .ref (Z.2.2.2 5))] [] (xTk S (nI a) gk (nI b_) gv)
    refine V_iload_n (pc := 45) dX7_readWord_45 0 rfl rfl ?_
    refine V_iconst (v := 5) (pc := 46) dX7_readWord_46 (by decide) ?_
    refine V_icmp_gt (pc := 47) (tgt := 77) dX7_readWord_47 (by decide) (fun h47 => ?_) (fun h47 => ?_)
    · skip
      have hw6 : w = 6 := by
        have h7 := (nI_ltI (a := 5) (by decide) (by omega)).mp h47
        omega
      exact V_vret (pc := 77) dX7_readWord_77 (Nat.le_of_ble_eq_true rfl) (Nat.le_of_ble_eq_true rfl) (hB _ _ (by refine ⟨rfl, ?_⟩; rw [← hE]; rcases hI45.2 with ⟨q1, q2, q3⟩ | ⟨q1, q2, q3⟩; (rw [q2, q3, if_pos (by omega), if_pos (by omega)]); (rw [q2, q3, if_neg (by omega), if_neg (by omega)])))
    · skip
      have hw6 : w < 6 := by
        refine Nat.not_le.mp (fun q => h47 ?_)
        exact nI_lt (a := 5) (by omega) (by omega)
      refine V_aload_n (pc := 50) dX7_readWord_50 1 rfl rfl ?_
      refine V_iload_n (pc := 51) dX7_readWord_51 0 rfl rfl ?_
      refine V_callSS (pc := 52) hst dX7_readWord_52 (c_X7_nameOf Z _ w (by exact hw6)) kX7_66 rfl (Nat.le_of_ble_eq_true rfl) (by decide) (by decide) (Nat.le_of_ble_eq_true rfl) (Nat.le_of_ble_eq_true rfl) (fun v52 S52 hp52 => ?_)
      obtain ⟨rfl, rfl⟩ := hp52
      refine V_callVS (q0 := 13) (ci := 7) (C := RX7) (T := TX7) (N := 9) (pc := 55) hst dX7_readWord_55 (c_X7_isNamed Z _ a b_ L_ _ _ w (by exact hw6) (by exact hL) (by exact hL6) (by exact hI0.1) (by exact hI0.2.1)) kX7_70 rfl rfl rfl rfl (Nat.le_of_ble_eq_true rfl) (by decide) (by decide) (Nat.le_of_ble_eq_true rfl) (Nat.le_of_ble_eq_true rfl) (fun v55 S55 hp55 => ?_)
      obtain ⟨rfl, rfl⟩ := hp55
      refine V_bif_eq (pc := 58) (tgt := 71) dX7_readWord_58 (by decide) (fun h58 => ?_) (fun h58 => ?_)
      · skip
        refine V_iinc (pc := 71) (v := 1) (L2 := [(0, .ref (Z.2.2.2 5))]) dX7_readWord_71 0 rfl (by decide) (by decide) rfl (fun x1_71 ex1_71 => ?_)
        rw [nI_1] at ex1_71
        subst ex1_71
        refine V_goto (pc := 74) (tgt := 45) dX7_readWord_74 (by decide) ?_
        refine V_sub (L' := [(1, .int (nI (w + 1))), (0, .ref (Z.2.2.2 5))]) [0, 1] rfl ?_
        refine ih45 (gk, gv, ((w + 1))) ?_ ?_
        · have ew : wdo (S.2.2.1 30) b_ a ≠ w := fun z => h58 ((wdo_iff hw6).mp z)
          refine ⟨by show w + 1 ≤ 6; omega, ?_⟩
          rcases hI45.2 with ⟨q1, q2, q3⟩ | ⟨q1, q2, q3⟩
          · exact Or.inl ⟨by show _ < w + 1; omega, q2, q3⟩
          · exact Or.inr ⟨by show ¬ _ < w + 1; omega, q2, q3⟩
        · show 6 - (w + 1) < 6 - w
          omega
      · skip
        refine V_aload_n (pc := 61) dX7_readWord_61 1 rfl rfl ?_
        refine V_iconst (v := 1) (pc := 62) dX7_readWord_62 (by decide) ?_
        refine Xp_X7_31 (pc := 63) dX7_readWord_63 ?_
        refine V_eqS _ (xTk_k S _ _ _ _ _) ?_
        refine V_aload_n (pc := 66) dX7_readWord_66 1 rfl rfl ?_
        refine V_iload_n (pc := 67) dX7_readWord_67 0 rfl rfl ?_
        refine Xp_X7_37 (pc := 68) dX7_readWord_68 ?_
        refine V_eqS _ (xTk_v S _ _ _ _ _) ?_
        refine V_iinc (pc := 71) (v := 1) (L2 := [(0, .ref (Z.2.2.2 5))]) dX7_readWord_71 0 rfl (by decide) (by decide) rfl (fun x1_71 ex1_71 => ?_)
        rw [nI_1] at ex1_71
        subst ex1_71
        refine V_goto (pc := 74) (tgt := 45) dX7_readWord_74 (by decide) ?_
        refine V_sub (L' := [(1, .int (nI (w + 1))), (0, .ref (Z.2.2.2 5))]) [0, 1] rfl ?_
        refine ih45 (1, (nI w), ((w + 1))) ?_ ?_
        · have ew := (wdo_iff (T := (S.2.2.1 30)) (b := b_) (e := a) hw6).mpr h58
          exact ⟨by show w + 1 ≤ 6; omega, Or.inl ⟨by show _ < w + 1; omega, rfl, by rw [ew]⟩⟩
        · show 6 - (w + 1) < 6 - w
          omega
  · skip
    have hj : a < L_ := Nat.not_le.mp (fun q => h8 (nI_le q (by omega)))
    refine V_aload_n (pc := 11) dX7_readWord_11 0 rfl rfl ?_
    refine V_aload_n (pc := 12) dX7_readWord_12 0 rfl rfl ?_
    refine Xg_X7_28 (pc := 13) (v := (nI a)) rfl dX7_readWord_13 ?_
    refine V_callVi (q0 := 13) (ci := 7) (C := RX7) (T := TX7) (N := 9) (pc := 16) dX7_readWord_16 (c_X7_byteAt Z _ (a) L_ (by exact hL) (by exact hL6) (by omega)) kX7_51 rfl rfl rfl rfl (Nat.le_of_ble_eq_true rfl) (by decide) (by decide) (Nat.le_of_ble_eq_true rfl) (Nat.le_of_ble_eq_true rfl) ?_
    refine V_eqi ((S.2.2.1 30) a) (if_pos hj) ?_
    refine V_callSi (pc := 19) dX7_readWord_19 (c_X7_isLetter Z _ _) kX7_54 rfl (Nat.le_of_ble_eq_true rfl) (by decide) (by decide) (Nat.le_of_ble_eq_true rfl) (Nat.le_of_ble_eq_true rfl) ?_
    refine V_bif_eq (pc := 22) (tgt := 38) dX7_readWord_22 (by decide) (fun h22 => ?_) (fun h22 => ?_)
    · skip
      have hE : a = (skp ltB (S.2.2.1 30) L_ b_) := by rw [← hI0.2.2]; exact (skp_f (fun h => h22 h.2)).symm
      refine V_aload_n (pc := 38) dX7_readWord_38 0 rfl rfl ?_
      refine V_iconst (v := 4) (pc := 39) dX7_readWord_39 (by decide) ?_
      refine Xp_X7_31 (pc := 40) dX7_readWord_40 ?_
      refine V_eqS _ (xTk_k S _ _ _ _ _) ?_
      refine V_iconst (v := 0) (pc := 43) dX7_readWord_43 (by decide) ?_
      refine V_istore_n (pc := 44) (L2 := [(0, .ref (Z.2.2.2 5))]) dX7_readWord_44 rfl (by decide) rfl (fun x1_44 ex1_44 => ?_)
      subst ex1_44
      refine V_sub (L' := [(1, .int (nI 0)), (0, .ref (Z.2.2.2 5))]) [0, 1] rfl ?_
      refine Vloop (σ := Int32 × Int32 × Nat) (fun x => (x.2.2) ≤ 6 ∧ ((wdo (S.2.2.1 30) b_ a < (x.2.2) ∧ (x.1) = 1 ∧ (x.2.1) = nI (wdo (S.2.2.1 30) b_ a)) ∨ (¬ wdo (S.2.2.1 30) b_ a < (x.2.2) ∧ (x.1) = 4 ∧ (x.2.1) = v_))) (fun x => 6 - (x.2.2)) (fun x => V XW Z cX7_readWord RX7 2 none 6 0 0 B 0 0 45 [(1, .int (nI (x.2.2))), (0, .ref (Z.2.2.2 5))] [] (xTk S (nI a) (x.1) (nI b_) (x.2.1))) ?_ (4, v_, 0) (by exact ⟨Nat.zero_le _, Or.inr ⟨Nat.not_lt_zero _, rfl, rfl⟩⟩)
      rintro ⟨gk, gv, w⟩ hI45 ih45
      have hI45 : w ≤ 6 ∧ ((wdo (S.2.2.1 30) b_ a < w ∧ gk = 1 ∧ gv = nI (wdo (S.2.2.1 30) b_ a)) ∨ (¬ wdo (S.2.2.1 30) b_ a < w ∧ gk = 4 ∧ gv = v_)) := hI45
      show V XW Z cX7_readWord RX7 2 none 6 0 0 B 0 0 45 [(1, .int (nI w)), (0, .ref (Z.2.2.2 5))] [] (xTk S (nI a) gk (nI b_) gv)
      refine V_iload_n (pc := 45) dX7_readWord_45 0 rfl rfl ?_
      refine V_iconst (v := 5) (pc := 46) dX7_readWord_46 (by decide) ?_
      refine V_icmp_gt (pc := 47) (tgt := 77) dX7_readWord_47 (by decide) (fun h47 => ?_) (fun h47 => ?_)
      · skip
        have hw6 : w = 6 := by
          have h7 := (nI_ltI (a := 5) (by decide) (by omega)).mp h47
          omega
        exact V_vret (pc := 77) dX7_readWord_77 (Nat.le_of_ble_eq_true rfl) (Nat.le_of_ble_eq_true rfl) (hB _ _ (by refine ⟨rfl, ?_⟩; rw [← hE]; rcases hI45.2 with ⟨q1, q2, q3⟩ | ⟨q1, q2, q3⟩; (rw [q2, q3, if_pos (by omega), if_pos (by omega)]); (rw [q2, q3, if_neg (by omega), if_neg (by omega)])))
      · skip
        have hw6 : w < 6 := by
          refine Nat.not_le.mp (fun q => h47 ?_)
          exact nI_lt (a := 5) (by omega) (by omega)
        refine V_aload_n (pc := 50) dX7_readWord_50 1 rfl rfl ?_
        refine V_iload_n (pc := 51) dX7_readWord_51 0 rfl rfl ?_
        refine V_callSS (pc := 52) hst dX7_readWord_52 (c_X7_nameOf Z _ w (by exact hw6)) kX7_66 rfl (Nat.le_of_ble_eq_true rfl) (by decide) (by decide) (Nat.le_of_ble_eq_true rfl) (Nat.le_of_ble_eq_true rfl) (fun v52 S52 hp52 => ?_)
        obtain ⟨rfl, rfl⟩ := hp52
        refine V_callVS (q0 := 13) (ci := 7) (C := RX7) (T := TX7) (N := 9) (pc := 55) hst dX7_readWord_55 (c_X7_isNamed Z _ a b_ L_ _ _ w (by exact hw6) (by exact hL) (by exact hL6) (by exact hI0.1) (by exact hI0.2.1)) kX7_70 rfl rfl rfl rfl (Nat.le_of_ble_eq_true rfl) (by decide) (by decide) (Nat.le_of_ble_eq_true rfl) (Nat.le_of_ble_eq_true rfl) (fun v55 S55 hp55 => ?_)
        obtain ⟨rfl, rfl⟩ := hp55
        refine V_bif_eq (pc := 58) (tgt := 71) dX7_readWord_58 (by decide) (fun h58 => ?_) (fun h58 => ?_)
        · skip
          refine V_iinc (pc := 71) (v := 1) (L2 := [(0, .ref (Z.2.2.2 5))]) dX7_readWord_71 0 rfl (by decide) (by decide) rfl (fun x1_71 ex1_71 => ?_)
          rw [nI_1] at ex1_71
          subst ex1_71
          refine V_goto (pc := 74) (tgt := 45) dX7_readWord_74 (by decide) ?_
          refine V_sub (L' := [(1, .int (nI (w + 1))), (0, .ref (Z.2.2.2 5))]) [0, 1] rfl ?_
          refine ih45 (gk, gv, ((w + 1))) ?_ ?_
          · have ew : wdo (S.2.2.1 30) b_ a ≠ w := fun z => h58 ((wdo_iff hw6).mp z)
            refine ⟨by show w + 1 ≤ 6; omega, ?_⟩
            rcases hI45.2 with ⟨q1, q2, q3⟩ | ⟨q1, q2, q3⟩
            · exact Or.inl ⟨by show _ < w + 1; omega, q2, q3⟩
            · exact Or.inr ⟨by show ¬ _ < w + 1; omega, q2, q3⟩
          · show 6 - (w + 1) < 6 - w
            omega
        · skip
          refine V_aload_n (pc := 61) dX7_readWord_61 1 rfl rfl ?_
          refine V_iconst (v := 1) (pc := 62) dX7_readWord_62 (by decide) ?_
          refine Xp_X7_31 (pc := 63) dX7_readWord_63 ?_
          refine V_eqS _ (xTk_k S _ _ _ _ _) ?_
          refine V_aload_n (pc := 66) dX7_readWord_66 1 rfl rfl ?_
          refine V_iload_n (pc := 67) dX7_readWord_67 0 rfl rfl ?_
          refine Xp_X7_37 (pc := 68) dX7_readWord_68 ?_
          refine V_eqS _ (xTk_v S _ _ _ _ _) ?_
          refine V_iinc (pc := 71) (v := 1) (L2 := [(0, .ref (Z.2.2.2 5))]) dX7_readWord_71 0 rfl (by decide) (by decide) rfl (fun x1_71 ex1_71 => ?_)
          rw [nI_1] at ex1_71
          subst ex1_71
          refine V_goto (pc := 74) (tgt := 45) dX7_readWord_74 (by decide) ?_
          refine V_sub (L' := [(1, .int (nI (w + 1))), (0, .ref (Z.2.2.2 5))]) [0, 1] rfl ?_
          refine ih45 (1, (nI w), ((w + 1))) ?_ ?_
          · have ew := (wdo_iff (T := (S.2.2.1 30)) (b := b_) (e := a) hw6).mpr h58
            exact ⟨by show w + 1 ≤ 6; omega, Or.inl ⟨by show _ < w + 1; omega, rfl, by rw [ew]⟩⟩
          · show 6 - (w + 1) < 6 - w
            omega
    · skip
      refine V_aload_n (pc := 25) dX7_readWord_25 0 rfl rfl ?_
      refine V_dup (pc := 26) dX7_readWord_26 rfl ?_
      refine Xg_X7_28 (pc := 27) (v := (nI a)) rfl dX7_readWord_27 ?_
      refine V_iconst (v := 1) (pc := 30) dX7_readWord_30 (by decide) ?_
      refine V_iadd (pc := 31) dX7_readWord_31 ?_
      refine Xp_X7_28 (pc := 32) dX7_readWord_32 ?_
      refine V_eqS (xTk S (nI (a + 1)) k_ (nI b_) v_) (by rw [nI_1]; exact xTk_a S _ _ _ _ _) ?_
      refine V_goto (pc := 35) (tgt := 0) dX7_readWord_35 (by decide) ?_
      refine V_sub (L' := [(0, .ref (Z.2.2.2 5))]) [0] rfl ?_
      refine ih0 (a + 1) ?_ ?_
      · show b_ ≤ (a + 1) ∧ (a + 1) ≤ L_ ∧ skp ltB (S.2.2.1 30) L_ (a + 1) = (skp ltB (S.2.2.1 30) L_ b_)
        exact ⟨by omega, hj, by rw [← hI0.2.2, skp_t hj h22]⟩
      · show L_ - (a + 1) < L_ - a
        omega
