theorem dg_iff {x : Int32} : (48 ≤ x ∧ x ≤ 57) ↔ dgB x = true := ⟨fun h => decide_eq_true h, fun h => of_decide_eq_true h⟩
theorem lt_iff {x : Int32} : (97 ≤ x ∧ x ≤ 122) ↔ ltB x = true := ⟨fun h => decide_eq_true h, fun h => of_decide_eq_true h⟩
set_option maxHeartbeats 4000000 in
set_option maxRecDepth 100000 in
theorem cM_takesNumber (Z : VZ) (S : MS) (b_ L_ : Nat) (k_ t_ v_ : Int32) (hL : S.1 21 = nI L_) (hL6 : L_ ≤ 60) (hb : b_ < L_) : CtF MW Z yX11_takesNumber cX11_takesNumber 4 none 2 0 0 [.ref (Z.2.2.2 99)] (mTk S (nI b_) t_ k_ v_) none (mTk S (nI (skp dgB (S.2.2 20) L_ (tkF (S.2.2 20) b_))) t_ (if 1 ≤ (tkN (S.2.2 20) L_ b_) ∧ (tkN (S.2.2 20) L_ b_) ≤ 2 then 2 else 4) (if (S.2.2 20) b_ = 45 then -(nvT (S.2.2 20) (tkF (S.2.2 20) b_) (tkN (S.2.2 20) L_ b_)) else (nvT (S.2.2 20) (tkF (S.2.2 20) b_) (tkN (S.2.2 20) L_ b_)))) := by
  refine V_entry (own := RX11) (by decide) rfl (Nat.le_of_ble_eq_true rfl) ?_
  intro B hB
  refine V_sub (L' := [(0, .ref (Z.2.2.2 99))]) [0] rfl ?_
  refine V_aload_n (pc := 0) dX11_takesNumber_0 0 rfl rfl ?_
  refine Mg_tape (pc := 1) dX11_takesNumber_1 ?_
  refine V_aload_n (pc := 4) dX11_takesNumber_4 0 rfl rfl ?_
  refine Mg_at (pc := 5) (v := (nI b_)) rfl dX11_takesNumber_5 ?_
  refine Ml_tape (pc := 8) dX11_takesNumber_8 (by exact vp_in_nI (by omega) (by decide)) ?_
  refine V_eqi ((S.2.2 20) b_) (by rw [nI_clamp (by omega)]; rfl) ?_
  refine V_bipush (v := 45) (pc := 9) dX11_takesNumber_9 (by decide) ?_
  refine V_icmp_ne (pc := 11) (tgt := 18) dX11_takesNumber_11 (by decide) (fun h11 => ?_) (fun h11 => ?_)
  · skip
    have eF : tkF (S.2.2 20) b_ = b_ := by unfold tkF; rw [if_neg h11, Nat.add_zero]
    refine V_iconst (v := 0) (pc := 18) dX11_takesNumber_18 (by decide) ?_
    refine V_istore_n (pc := 19) (L2 := [(0, .ref (Z.2.2.2 99))]) dX11_takesNumber_19 rfl (by decide) rfl (fun x1_19 ex1_19 => ?_)
    subst ex1_19
    refine V_iload_n (pc := 20) dX11_takesNumber_20 0 rfl rfl ?_
    refine V_if_eq (pc := 21) (tgt := 34) dX11_takesNumber_21 (by decide) (fun h21 => ?_) (fun h21 => ?_)
    · skip
      refine V_aload_n (pc := 34) dX11_takesNumber_34 1 rfl rfl ?_
      refine Mg_at (pc := 35) (v := (nI b_)) rfl dX11_takesNumber_35 ?_
      refine V_istore_n (pc := 38) (L2 := [(1, .int 0), (0, .ref (Z.2.2.2 99))]) dX11_takesNumber_38 rfl (by decide) rfl (fun x2_38 ex2_38 => ?_)
      subst ex2_38
      refine V_iconst (v := 0) (pc := 39) dX11_takesNumber_39 (by decide) ?_
      refine V_istore_n (pc := 40) (L2 := [(2, .int (nI b_)), (1, .int 0), (0, .ref (Z.2.2.2 99))]) dX11_takesNumber_40 rfl (by decide) rfl (fun x3_40 ex3_40 => ?_)
      subst ex3_40
      refine V_eqS (mTk S (nI (b_ + 0)) t_ k_ v_) rfl ?_
      refine Vloop (σ := Nat × Int32) (fun x => b_ + (x.1) ≤ L_ ∧ skp dgB (S.2.2 20) L_ (b_ + (x.1)) = skp dgB (S.2.2 20) L_ b_ ∧ (x.2) = nvT (S.2.2 20) b_ (x.1)) (fun x => L_ + 1 - (x.1)) (fun x => V MW Z cX11_takesNumber RX11 4 none 2 0 0 B 0 0 41 [(3, .int (x.2)), (2, .int (nI b_)), (1, .int 0), (0, .ref (Z.2.2.2 99))] [] (mTk S (nI (b_ + (x.1))) t_ k_ v_)) ?_ (0, 0) (by exact ⟨by omega, rfl, rfl⟩)
      rintro ⟨j, u⟩ hI41 ih41
      have hI41 : b_ + j ≤ L_ ∧ skp dgB (S.2.2 20) L_ (b_ + j) = skp dgB (S.2.2 20) L_ b_ ∧ u = nvT (S.2.2 20) b_ j := hI41
      show V MW Z cX11_takesNumber RX11 4 none 2 0 0 B 0 0 41 [(3, .int u), (2, .int (nI b_)), (1, .int 0), (0, .ref (Z.2.2.2 99))] [] (mTk S (nI (b_ + j)) t_ k_ v_)
      refine V_aload_n (pc := 41) dX11_takesNumber_41 3 rfl rfl ?_
      refine V_bipush (v := 48) (pc := 42) dX11_takesNumber_42 (by decide) ?_
      refine V_bipush (v := 57) (pc := 44) dX11_takesNumber_44 (by decide) ?_
      refine McVi (pc := 46) dX11_takesNumber_46 (cM_isAtT Z _ (b_ + j) L_ _ _ _ _ _ (by exact hL) (by exact hL6) (by omega)) kM_283 rfl rfl (Nat.le_of_ble_eq_true rfl) (by decide) (by decide) ?_
      refine V_bif_eq (pc := 49) (tgt := 97) dX11_takesNumber_49 (by decide) (fun h49 => ?_) (fun h49 => ?_)
      · skip
        have hE : skp dgB (S.2.2 20) L_ b_ = b_ + j := by rw [← hI41.2.1]; exact skp_f (fun h => h49 ⟨h.1, dg_iff.mpr h.2⟩)
        have hN : (tkN (S.2.2 20) L_ b_) = j := by unfold tkN; rw [eF, hE]; omega
        refine V_aload_n (pc := 97) dX11_takesNumber_97 3 rfl rfl ?_
        refine V_aload_n (pc := 98) dX11_takesNumber_98 3 rfl rfl ?_
        refine Mg_at (pc := 99) (v := (nI (b_ + j))) rfl dX11_takesNumber_99 ?_
        refine V_iload_n (pc := 102) dX11_takesNumber_102 1 rfl rfl ?_
        refine V_isub (pc := 103) dX11_takesNumber_103 ?_
        refine V_eqi (nI j) (by rw [pk_sub (by omega), Nat.add_sub_cancel_left]) ?_
        refine V_iconst (v := 1) (pc := 104) dX11_takesNumber_104 (by decide) ?_
        refine V_icmp_lt (pc := 105) (tgt := 118) dX11_takesNumber_105 (by decide) (fun h105 => ?_) (fun h105 => ?_)
        · skip
          have hK : ¬ (1 ≤ j ∧ j ≤ 2) := fun h => absurd (nI_le (a := 1) h.1 (by omega)) (Int32.not_le.mpr h105)
          refine V_iconst (v := 4) (pc := 118) dX11_takesNumber_118 (by decide) ?_
          refine V_goto (pc := 119) (tgt := 123) dX11_takesNumber_119 (by decide) ?_
          refine Mp_token (pc := 123) dX11_takesNumber_123 ?_
          refine V_eqS _ (mTk_k S _ _ _ _ _) ?_
          refine V_aload_n (pc := 126) dX11_takesNumber_126 3 rfl rfl ?_
          refine V_iload_n (pc := 127) dX11_takesNumber_127 2 rfl rfl ?_
          refine V_if_eq (pc := 128) (tgt := 136) dX11_takesNumber_128 (by decide) (fun h128 => ?_) (fun h128 => ?_)
          · skip
            refine V_iload_n (pc := 136) dX11_takesNumber_136 0 rfl rfl ?_
            refine Mp_value (pc := 137) dX11_takesNumber_137 ?_
            refine V_eqS _ (mTk_v S _ _ _ _ _) ?_
            exact V_vret (pc := 140) dX11_takesNumber_140 (Nat.le_of_ble_eq_true rfl) (Nat.le_of_ble_eq_true rfl) (hB _ _ ⟨rfl, by rw [hN, eF, hE, hI41.2.2]; first | (rw [if_pos hK, if_pos h11]; done) | (rw [if_pos hK, if_neg h11]; done) | (rw [if_neg hK, if_pos h11]; done) | (rw [if_neg hK, if_neg h11]; done)⟩)
          · skip
            first | exact absurd h128 (by decide) | exact absurd rfl h128
        · skip
          refine V_aload_n (pc := 108) dX11_takesNumber_108 3 rfl rfl ?_
          refine Mg_at (pc := 109) (v := (nI (b_ + j))) rfl dX11_takesNumber_109 ?_
          refine V_iload_n (pc := 112) dX11_takesNumber_112 1 rfl rfl ?_
          refine V_isub (pc := 113) dX11_takesNumber_113 ?_
          refine V_eqi (nI j) (by rw [pk_sub (by omega), Nat.add_sub_cancel_left]) ?_
          refine V_iconst (v := 2) (pc := 114) dX11_takesNumber_114 (by decide) ?_
          refine V_icmp_le (pc := 115) (tgt := 122) dX11_takesNumber_115 (by decide) (fun h115 => ?_) (fun h115 => ?_)
          · skip
            have hK : 1 ≤ j ∧ j ≤ 2 := ⟨(nI_leI (a := 1) (by decide) (by omega)).mp (Int32.not_lt.mp h105), (nI_leI (b := 2) (by omega) (by decide)).mp h115⟩
            refine V_iconst (v := 2) (pc := 122) dX11_takesNumber_122 (by decide) ?_
            refine Mp_token (pc := 123) dX11_takesNumber_123 ?_
            refine V_eqS _ (mTk_k S _ _ _ _ _) ?_
            refine V_aload_n (pc := 126) dX11_takesNumber_126 3 rfl rfl ?_
            refine V_iload_n (pc := 127) dX11_takesNumber_127 2 rfl rfl ?_
            refine V_if_eq (pc := 128) (tgt := 136) dX11_takesNumber_128 (by decide) (fun h128 => ?_) (fun h128 => ?_)
            · skip
              refine V_iload_n (pc := 136) dX11_takesNumber_136 0 rfl rfl ?_
              refine Mp_value (pc := 137) dX11_takesNumber_137 ?_
              refine V_eqS _ (mTk_v S _ _ _ _ _) ?_
              exact V_vret (pc := 140) dX11_takesNumber_140 (Nat.le_of_ble_eq_true rfl) (Nat.le_of_ble_eq_true rfl) (hB _ _ ⟨rfl, by rw [hN, eF, hE, hI41.2.2]; first | (rw [if_pos hK, if_pos h11]; done) | (rw [if_pos hK, if_neg h11]; done) | (rw [if_neg hK, if_pos h11]; done) | (rw [if_neg hK, if_neg h11]; done)⟩)
            · skip
              first | exact absurd h128 (by decide) | exact absurd rfl h128
          · skip
            have hK : ¬ (1 ≤ j ∧ j ≤ 2) := fun h => h115 (nI_le (b := 2) h.2 (by decide))
            refine V_iconst (v := 4) (pc := 118) dX11_takesNumber_118 (by decide) ?_
            refine V_goto (pc := 119) (tgt := 123) dX11_takesNumber_119 (by decide) ?_
            refine Mp_token (pc := 123) dX11_takesNumber_123 ?_
            refine V_eqS _ (mTk_k S _ _ _ _ _) ?_
            refine V_aload_n (pc := 126) dX11_takesNumber_126 3 rfl rfl ?_
            refine V_iload_n (pc := 127) dX11_takesNumber_127 2 rfl rfl ?_
            refine V_if_eq (pc := 128) (tgt := 136) dX11_takesNumber_128 (by decide) (fun h128 => ?_) (fun h128 => ?_)
            · skip
              refine V_iload_n (pc := 136) dX11_takesNumber_136 0 rfl rfl ?_
              refine Mp_value (pc := 137) dX11_takesNumber_137 ?_
              refine V_eqS _ (mTk_v S _ _ _ _ _) ?_
              exact V_vret (pc := 140) dX11_takesNumber_140 (Nat.le_of_ble_eq_true rfl) (Nat.le_of_ble_eq_true rfl) (hB _ _ ⟨rfl, by rw [hN, eF, hE, hI41.2.2]; first | (rw [if_pos hK, if_pos h11]; done) | (rw [if_pos hK, if_neg h11]; done) | (rw [if_neg hK, if_pos h11]; done) | (rw [if_neg hK, if_neg h11]; done)⟩)
            · skip
              first | exact absurd h128 (by decide) | exact absurd rfl h128
      · skip
        refine V_aload_n (pc := 52) dX11_takesNumber_52 3 rfl rfl ?_
        refine Mg_at (pc := 53) (v := (nI (b_ + j))) rfl dX11_takesNumber_53 ?_
        refine V_iload_n (pc := 56) dX11_takesNumber_56 1 rfl rfl ?_
        refine V_isub (pc := 57) dX11_takesNumber_57 ?_
        refine V_eqi (nI j) (by rw [pk_sub (by omega), Nat.add_sub_cancel_left]) ?_
        refine V_iconst (v := 2) (pc := 58) dX11_takesNumber_58 (by decide) ?_
        refine V_icmp_ge (pc := 59) (tgt := 82) dX11_takesNumber_59 (by decide) (fun h59 => ?_) (fun h59 => ?_)
        · skip
          have hj2 : 2 ≤ j := (nI_leI (a := 2) (by decide) (by omega)).mp h59
          have hj := h49.1
          refine V_iload_n (pc := 82) dX11_takesNumber_82 0 rfl rfl ?_
          refine V_istore_n (pc := 83) (L2 := [(2, .int (nI b_)), (1, .int 0), (0, .ref (Z.2.2.2 99))]) dX11_takesNumber_83 rfl (by decide) rfl (fun x3_83 ex3_83 => ?_)
          subst ex3_83
          refine V_aload_n (pc := 84) dX11_takesNumber_84 3 rfl rfl ?_
          refine V_dup (pc := 85) dX11_takesNumber_85 rfl ?_
          refine Mg_at (pc := 86) (v := (nI (b_ + j))) rfl dX11_takesNumber_86 ?_
          refine V_iconst (v := 1) (pc := 89) dX11_takesNumber_89 (by decide) ?_
          refine V_iadd (pc := 90) dX11_takesNumber_90 ?_
          refine Mp_at (pc := 91) dX11_takesNumber_91 ?_
          refine V_eqS (mTk S (nI (b_ + (j + 1))) t_ k_ v_) (by rw [nI_1]; exact mTk_a S _ _ _ _ _) ?_
          refine V_goto (pc := 94) (tgt := 41) dX11_takesNumber_94 (by decide) ?_
          refine V_sub (L' := [(3, .int u), (2, .int (nI b_)), (1, .int 0), (0, .ref (Z.2.2.2 99))]) [0, 1, 2, 3] rfl ?_
          refine ih41 ((j + 1), _) ?_ ?_
          · refine ⟨by show b_ + (j + 1) ≤ L_; omega, ?_, ?_⟩
            · rw [← hI41.2.1, skp_t h49.1 (dg_iff.mp h49.2)]; rfl
            · show _ = nvT (S.2.2 20) b_ (j + 1)
              rw [nv_s]
              first | (rw [if_pos (show j < 2 by omega), hI41.2.2, Int32.mul_comm]; done) | (rw [if_neg (show ¬ j < 2 by omega), hI41.2.2]; done)
          · show L_ + 1 - (j + 1) < L_ + 1 - j
            omega
        · skip
          have hj2 : ¬ 2 ≤ j := fun q => h59 (nI_le (a := 2) q (by omega))
          have hj := h49.1
          refine V_bipush (v := 10) (pc := 62) dX11_takesNumber_62 (by decide) ?_
          refine V_iload_n (pc := 64) dX11_takesNumber_64 0 rfl rfl ?_
          refine V_imul (pc := 65) dX11_takesNumber_65 ?_
          refine V_aload_n (pc := 66) dX11_takesNumber_66 3 rfl rfl ?_
          refine Mg_tape (pc := 67) dX11_takesNumber_67 ?_
          refine V_aload_n (pc := 70) dX11_takesNumber_70 3 rfl rfl ?_
          refine Mg_at (pc := 71) (v := (nI (b_ + j))) rfl dX11_takesNumber_71 ?_
          refine Ml_tape (pc := 74) dX11_takesNumber_74 (by have := h49.1; exact vp_in_nI (by omega) (by decide)) ?_
          refine V_eqi ((S.2.2 20) (b_ + j)) (by rw [nI_clamp (by omega)]; rfl) ?_
          refine V_iadd (pc := 75) dX11_takesNumber_75 ?_
          refine V_bipush (v := 48) (pc := 76) dX11_takesNumber_76 (by decide) ?_
          refine V_isub (pc := 78) dX11_takesNumber_78 ?_
          refine V_goto (pc := 79) (tgt := 83) dX11_takesNumber_79 (by decide) ?_
          refine V_istore_n (pc := 83) (L2 := [(2, .int (nI b_)), (1, .int 0), (0, .ref (Z.2.2.2 99))]) dX11_takesNumber_83 rfl (by decide) rfl (fun x3_83 ex3_83 => ?_)
          subst ex3_83
          refine V_aload_n (pc := 84) dX11_takesNumber_84 3 rfl rfl ?_
          refine V_dup (pc := 85) dX11_takesNumber_85 rfl ?_
          refine Mg_at (pc := 86) (v := (nI (b_ + j))) rfl dX11_takesNumber_86 ?_
          refine V_iconst (v := 1) (pc := 89) dX11_takesNumber_89 (by decide) ?_
          refine V_iadd (pc := 90) dX11_takesNumber_90 ?_
          refine Mp_at (pc := 91) dX11_takesNumber_91 ?_
          refine V_eqS (mTk S (nI (b_ + (j + 1))) t_ k_ v_) (by rw [nI_1]; exact mTk_a S _ _ _ _ _) ?_
          refine V_goto (pc := 94) (tgt := 41) dX11_takesNumber_94 (by decide) ?_
          refine V_sub (L' := [(3, .int (((10 * u) + ((S.2.2 20) (b_ + j))) - 48)), (2, .int (nI b_)), (1, .int 0), (0, .ref (Z.2.2.2 99))]) [0, 1, 2, 3] rfl ?_
          refine ih41 ((j + 1), _) ?_ ?_
          · refine ⟨by show b_ + (j + 1) ≤ L_; omega, ?_, ?_⟩
            · rw [← hI41.2.1, skp_t h49.1 (dg_iff.mp h49.2)]; rfl
            · show _ = nvT (S.2.2 20) b_ (j + 1)
              rw [nv_s]
              first | (rw [if_pos (show j < 2 by omega), hI41.2.2, Int32.mul_comm]; done) | (rw [if_neg (show ¬ j < 2 by omega), hI41.2.2]; done)
          · show L_ + 1 - (j + 1) < L_ + 1 - j
            omega
    · skip
      first | exact absurd h21 (by decide) | exact absurd rfl h21
  · skip
    have eF : tkF (S.2.2 20) b_ = b_ + 1 := by unfold tkF; rw [if_pos h11]
    refine V_iconst (v := 1) (pc := 14) dX11_takesNumber_14 (by decide) ?_
    refine V_goto (pc := 15) (tgt := 19) dX11_takesNumber_15 (by decide) ?_
    refine V_istore_n (pc := 19) (L2 := [(0, .ref (Z.2.2.2 99))]) dX11_takesNumber_19 rfl (by decide) rfl (fun x1_19 ex1_19 => ?_)
    subst ex1_19
    refine V_iload_n (pc := 20) dX11_takesNumber_20 0 rfl rfl ?_
    refine V_if_eq (pc := 21) (tgt := 34) dX11_takesNumber_21 (by decide) (fun h21 => ?_) (fun h21 => ?_)
    · skip
      first | exact absurd h21 (by decide) | exact absurd rfl h21
    · skip
      refine V_aload_n (pc := 24) dX11_takesNumber_24 1 rfl rfl ?_
      refine V_dup (pc := 25) dX11_takesNumber_25 rfl ?_
      refine Mg_at (pc := 26) (v := (nI b_)) rfl dX11_takesNumber_26 ?_
      refine V_iconst (v := 1) (pc := 29) dX11_takesNumber_29 (by decide) ?_
      refine V_iadd (pc := 30) dX11_takesNumber_30 ?_
      refine Mp_at (pc := 31) dX11_takesNumber_31 ?_
      refine V_eqS (mTk S (nI (b_ + 1)) t_ k_ v_) (by rw [nI_1]; exact mTk_a S _ _ _ _ _) ?_
      refine V_aload_n (pc := 34) dX11_takesNumber_34 1 rfl rfl ?_
      refine Mg_at (pc := 35) (v := (nI (b_ + 1))) rfl dX11_takesNumber_35 ?_
      refine V_istore_n (pc := 38) (L2 := [(1, .int 1), (0, .ref (Z.2.2.2 99))]) dX11_takesNumber_38 rfl (by decide) rfl (fun x2_38 ex2_38 => ?_)
      subst ex2_38
      refine V_iconst (v := 0) (pc := 39) dX11_takesNumber_39 (by decide) ?_
      refine V_istore_n (pc := 40) (L2 := [(2, .int (nI (b_ + 1))), (1, .int 1), (0, .ref (Z.2.2.2 99))]) dX11_takesNumber_40 rfl (by decide) rfl (fun x3_40 ex3_40 => ?_)
      subst ex3_40
      refine V_eqS (mTk S (nI ((b_ + 1) + 0)) t_ k_ v_) rfl ?_
      refine Vloop (σ := Nat × Int32) (fun x => (b_ + 1) + (x.1) ≤ L_ ∧ skp dgB (S.2.2 20) L_ ((b_ + 1) + (x.1)) = skp dgB (S.2.2 20) L_ (b_ + 1) ∧ (x.2) = nvT (S.2.2 20) (b_ + 1) (x.1)) (fun x => L_ + 1 - (x.1)) (fun x => V MW Z cX11_takesNumber RX11 4 none 2 0 0 B 0 0 41 [(3, .int (x.2)), (2, .int (nI (b_ + 1))), (1, .int 1), (0, .ref (Z.2.2.2 99))] [] (mTk S (nI ((b_ + 1) + (x.1))) t_ k_ v_)) ?_ (0, 0) (by exact ⟨by omega, rfl, rfl⟩)
      rintro ⟨j, u⟩ hI41 ih41
      have hI41 : (b_ + 1) + j ≤ L_ ∧ skp dgB (S.2.2 20) L_ ((b_ + 1) + j) = skp dgB (S.2.2 20) L_ (b_ + 1) ∧ u = nvT (S.2.2 20) (b_ + 1) j := hI41
      show V MW Z cX11_takesNumber RX11 4 none 2 0 0 B 0 0 41 [(3, .int u), (2, .int (nI (b_ + 1))), (1, .int 1), (0, .ref (Z.2.2.2 99))] [] (mTk S (nI ((b_ + 1) + j)) t_ k_ v_)
      refine V_aload_n (pc := 41) dX11_takesNumber_41 3 rfl rfl ?_
      refine V_bipush (v := 48) (pc := 42) dX11_takesNumber_42 (by decide) ?_
      refine V_bipush (v := 57) (pc := 44) dX11_takesNumber_44 (by decide) ?_
      refine McVi (pc := 46) dX11_takesNumber_46 (cM_isAtT Z _ ((b_ + 1) + j) L_ _ _ _ _ _ (by exact hL) (by exact hL6) (by omega)) kM_283 rfl rfl (Nat.le_of_ble_eq_true rfl) (by decide) (by decide) ?_
      refine V_bif_eq (pc := 49) (tgt := 97) dX11_takesNumber_49 (by decide) (fun h49 => ?_) (fun h49 => ?_)
      · skip
        have hE : skp dgB (S.2.2 20) L_ (b_ + 1) = (b_ + 1) + j := by rw [← hI41.2.1]; exact skp_f (fun h => h49 ⟨h.1, dg_iff.mpr h.2⟩)
        have hN : (tkN (S.2.2 20) L_ b_) = j := by unfold tkN; rw [eF, hE]; omega
        refine V_aload_n (pc := 97) dX11_takesNumber_97 3 rfl rfl ?_
        refine V_aload_n (pc := 98) dX11_takesNumber_98 3 rfl rfl ?_
        refine Mg_at (pc := 99) (v := (nI ((b_ + 1) + j))) rfl dX11_takesNumber_99 ?_
        refine V_iload_n (pc := 102) dX11_takesNumber_102 1 rfl rfl ?_
        refine V_isub (pc := 103) dX11_takesNumber_103 ?_
        refine V_eqi (nI j) (by rw [pk_sub (by omega), Nat.add_sub_cancel_left]) ?_
        refine V_iconst (v := 1) (pc := 104) dX11_takesNumber_104 (by decide) ?_
        refine V_icmp_lt (pc := 105) (tgt := 118) dX11_takesNumber_105 (by decide) (fun h105 => ?_) (fun h105 => ?_)
        · skip
          have hK : ¬ (1 ≤ j ∧ j ≤ 2) := fun h => absurd (nI_le (a := 1) h.1 (by omega)) (Int32.not_le.mpr h105)
          refine V_iconst (v := 4) (pc := 118) dX11_takesNumber_118 (by decide) ?_
          refine V_goto (pc := 119) (tgt := 123) dX11_takesNumber_119 (by decide) ?_
          refine Mp_token (pc := 123) dX11_takesNumber_123 ?_
          refine V_eqS _ (mTk_k S _ _ _ _ _) ?_
          refine V_aload_n (pc := 126) dX11_takesNumber_126 3 rfl rfl ?_
          refine V_iload_n (pc := 127) dX11_takesNumber_127 2 rfl rfl ?_
          refine V_if_eq (pc := 128) (tgt := 136) dX11_takesNumber_128 (by decide) (fun h128 => ?_) (fun h128 => ?_)
          · skip
            first | exact absurd h128 (by decide) | exact absurd rfl h128
          · skip
            refine V_iload_n (pc := 131) dX11_takesNumber_131 0 rfl rfl ?_
            refine V_ineg (pc := 132) dX11_takesNumber_132 ?_
            refine V_goto (pc := 133) (tgt := 137) dX11_takesNumber_133 (by decide) ?_
            refine Mp_value (pc := 137) dX11_takesNumber_137 ?_
            refine V_eqS _ (mTk_v S _ _ _ _ _) ?_
            exact V_vret (pc := 140) dX11_takesNumber_140 (Nat.le_of_ble_eq_true rfl) (Nat.le_of_ble_eq_true rfl) (hB _ _ ⟨rfl, by rw [hN, eF, hE, hI41.2.2]; first | (rw [if_pos hK, if_pos h11]; done) | (rw [if_pos hK, if_neg h11]; done) | (rw [if_neg hK, if_pos h11]; done) | (rw [if_neg hK, if_neg h11]; done)⟩)
        · skip
          refine V_aload_n (pc := 108) dX11_takesNumber_108 3 rfl rfl ?_
          refine Mg_at (pc := 109) (v := (nI ((b_ + 1) + j))) rfl dX11_takesNumber_109 ?_
          refine V_iload_n (pc := 112) dX11_takesNumber_112 1 rfl rfl ?_
          refine V_isub (pc := 113) dX11_takesNumber_113 ?_
          refine V_eqi (nI j) (by rw [pk_sub (by omega), Nat.add_sub_cancel_left]) ?_
          refine V_iconst (v := 2) (pc := 114) dX11_takesNumber_114 (by decide) ?_
          refine V_icmp_le (pc := 115) (tgt := 122) dX11_takesNumber_115 (by decide) (fun h115 => ?_) (fun h115 => ?_)
          · skip
            have hK : 1 ≤ j ∧ j ≤ 2 := ⟨(nI_leI (a := 1) (by decide) (by omega)).mp (Int32.not_lt.mp h105), (nI_leI (b := 2) (by omega) (by decide)).mp h115⟩
            refine V_iconst (v := 2) (pc := 122) dX11_takesNumber_122 (by decide) ?_
            refine Mp_token (pc := 123) dX11_takesNumber_123 ?_
            refine V_eqS _ (mTk_k S _ _ _ _ _) ?_
            refine V_aload_n (pc := 126) dX11_takesNumber_126 3 rfl rfl ?_
            refine V_iload_n (pc := 127) dX11_takesNumber_127 2 rfl rfl ?_
            refine V_if_eq (pc := 128) (tgt := 136) dX11_takesNumber_128 (by decide) (fun h128 => ?_) (fun h128 => ?_)
            · skip
              first | exact absurd h128 (by decide) | exact absurd rfl h128
            · skip
              refine V_iload_n (pc := 131) dX11_takesNumber_131 0 rfl rfl ?_
              refine V_ineg (pc := 132) dX11_takesNumber_132 ?_
              refine V_goto (pc := 133) (tgt := 137) dX11_takesNumber_133 (by decide) ?_
              refine Mp_value (pc := 137) dX11_takesNumber_137 ?_
              refine V_eqS _ (mTk_v S _ _ _ _ _) ?_
              exact V_vret (pc := 140) dX11_takesNumber_140 (Nat.le_of_ble_eq_true rfl) (Nat.le_of_ble_eq_true rfl) (hB _ _ ⟨rfl, by rw [hN, eF, hE, hI41.2.2]; first | (rw [if_pos hK, if_pos h11]; done) | (rw [if_pos hK, if_neg h11]; done) | (rw [if_neg hK, if_pos h11]; done) | (rw [if_neg hK, if_neg h11]; done)⟩)
          · skip
            have hK : ¬ (1 ≤ j ∧ j ≤ 2) := fun h => h115 (nI_le (b := 2) h.2 (by decide))
            refine V_iconst (v := 4) (pc := 118) dX11_takesNumber_118 (by decide) ?_
            refine V_goto (pc := 119) (tgt := 123) dX11_takesNumber_119 (by decide) ?_
            refine Mp_token (pc := 123) dX11_takesNumber_123 ?_
            refine V_eqS _ (mTk_k S _ _ _ _ _) ?_
            refine V_aload_n (pc := 126) dX11_takesNumber_126 3 rfl rfl ?_
            refine V_iload_n (pc := 127) dX11_takesNumber_127 2 rfl rfl ?_
            refine V_if_eq (pc := 128) (tgt := 136) dX11_takesNumber_128 (by decide) (fun h128 => ?_) (fun h128 => ?_)
            · skip
              first | exact absurd h128 (by decide) | exact absurd rfl h128
            · skip
              refine V_iload_n (pc := 131) dX11_takesNumber_131 0 rfl rfl ?_
              refine V_ineg (pc := 132) dX11_takesNumber_132 ?_
              refine V_goto (pc := 133) (tgt := 137) dX11_takesNumber_133 (by decide) ?_
              refine Mp_value (pc := 137) dX11_takesNumber_137 ?_
              refine V_eqS _ (mTk_v S _ _ _ _ _) ?_
              exact V_vret (pc := 140) dX11_takesNumber_140 (Nat.le_of_ble_eq_true rfl) (Nat.le_of_ble_eq_true rfl) (hB _ _ ⟨rfl, by rw [hN, eF, hE, hI41.2.2]; first | (rw [if_pos hK, if_pos h11]; done) | (rw [if_pos hK, if_neg h11]; done) | (rw [if_neg hK, if_pos h11]; done) | (rw [if_neg hK, if_neg h11]; done)⟩)
      · skip
        refine V_aload_n (pc := 52) dX11_takesNumber_52 3 rfl rfl ?_
        refine Mg_at (pc := 53) (v := (nI ((b_ + 1) + j))) rfl dX11_takesNumber_53 ?_
        refine V_iload_n (pc := 56) dX11_takesNumber_56 1 rfl rfl ?_
        refine V_isub (pc := 57) dX11_takesNumber_57 ?_
        refine V_eqi (nI j) (by rw [pk_sub (by omega), Nat.add_sub_cancel_left]) ?_
        refine V_iconst (v := 2) (pc := 58) dX11_takesNumber_58 (by decide) ?_
        refine V_icmp_ge (pc := 59) (tgt := 82) dX11_takesNumber_59 (by decide) (fun h59 => ?_) (fun h59 => ?_)
        · skip
          have hj2 : 2 ≤ j := (nI_leI (a := 2) (by decide) (by omega)).mp h59
          have hj := h49.1
          refine V_iload_n (pc := 82) dX11_takesNumber_82 0 rfl rfl ?_
          refine V_istore_n (pc := 83) (L2 := [(2, .int (nI (b_ + 1))), (1, .int 1), (0, .ref (Z.2.2.2 99))]) dX11_takesNumber_83 rfl (by decide) rfl (fun x3_83 ex3_83 => ?_)
          subst ex3_83
          refine V_aload_n (pc := 84) dX11_takesNumber_84 3 rfl rfl ?_
          refine V_dup (pc := 85) dX11_takesNumber_85 rfl ?_
          refine Mg_at (pc := 86) (v := (nI ((b_ + 1) + j))) rfl dX11_takesNumber_86 ?_
          refine V_iconst (v := 1) (pc := 89) dX11_takesNumber_89 (by decide) ?_
          refine V_iadd (pc := 90) dX11_takesNumber_90 ?_
          refine Mp_at (pc := 91) dX11_takesNumber_91 ?_
          refine V_eqS (mTk S (nI ((b_ + 1) + (j + 1))) t_ k_ v_) (by rw [nI_1]; exact mTk_a S _ _ _ _ _) ?_
          refine V_goto (pc := 94) (tgt := 41) dX11_takesNumber_94 (by decide) ?_
          refine V_sub (L' := [(3, .int u), (2, .int (nI (b_ + 1))), (1, .int 1), (0, .ref (Z.2.2.2 99))]) [0, 1, 2, 3] rfl ?_
          refine ih41 ((j + 1), _) ?_ ?_
          · refine ⟨by show (b_ + 1) + (j + 1) ≤ L_; omega, ?_, ?_⟩
            · rw [← hI41.2.1, skp_t h49.1 (dg_iff.mp h49.2)]; rfl
            · show _ = nvT (S.2.2 20) (b_ + 1) (j + 1)
              rw [nv_s]
              first | (rw [if_pos (show j < 2 by omega), hI41.2.2, Int32.mul_comm]; done) | (rw [if_neg (show ¬ j < 2 by omega), hI41.2.2]; done)
          · show L_ + 1 - (j + 1) < L_ + 1 - j
            omega
        · skip
          have hj2 : ¬ 2 ≤ j := fun q => h59 (nI_le (a := 2) q (by omega))
          have hj := h49.1
          refine V_bipush (v := 10) (pc := 62) dX11_takesNumber_62 (by decide) ?_
          refine V_iload_n (pc := 64) dX11_takesNumber_64 0 rfl rfl ?_
          refine V_imul (pc := 65) dX11_takesNumber_65 ?_
          refine V_aload_n (pc := 66) dX11_takesNumber_66 3 rfl rfl ?_
          refine Mg_tape (pc := 67) dX11_takesNumber_67 ?_
          refine V_aload_n (pc := 70) dX11_takesNumber_70 3 rfl rfl ?_
          refine Mg_at (pc := 71) (v := (nI ((b_ + 1) + j))) rfl dX11_takesNumber_71 ?_
          refine Ml_tape (pc := 74) dX11_takesNumber_74 (by have := h49.1; exact vp_in_nI (by omega) (by decide)) ?_
          refine V_eqi ((S.2.2 20) ((b_ + 1) + j)) (by rw [nI_clamp (by omega)]; rfl) ?_
          refine V_iadd (pc := 75) dX11_takesNumber_75 ?_
          refine V_bipush (v := 48) (pc := 76) dX11_takesNumber_76 (by decide) ?_
          refine V_isub (pc := 78) dX11_takesNumber_78 ?_
          refine V_goto (pc := 79) (tgt := 83) dX11_takesNumber_79 (by decide) ?_
          refine V_istore_n (pc := 83) (L2 := [(2, .int (nI (b_ + 1))), (1, .int 1), (0, .ref (Z.2.2.2 99))]) dX11_takesNumber_83 rfl (by decide) rfl (fun x3_83 ex3_83 => ?_)
          subst ex3_83
          refine V_aload_n (pc := 84) dX11_takesNumber_84 3 rfl rfl ?_
          refine V_dup (pc := 85) dX11_takesNumber_85 rfl ?_
          refine Mg_at (pc := 86) (v := (nI ((b_ + 1) + j))) rfl dX11_takesNumber_86 ?_
          refine V_iconst (v := 1) (pc := 89) dX11_takesNumber_89 (by decide) ?_
          refine V_iadd (pc := 90) dX11_takesNumber_90 ?_
          refine Mp_at (pc := 91) dX11_takesNumber_91 ?_
          refine V_eqS (mTk S (nI ((b_ + 1) + (j + 1))) t_ k_ v_) (by rw [nI_1]; exact mTk_a S _ _ _ _ _) ?_
          refine V_goto (pc := 94) (tgt := 41) dX11_takesNumber_94 (by decide) ?_
          refine V_sub (L' := [(3, .int (((10 * u) + ((S.2.2 20) ((b_ + 1) + j))) - 48)), (2, .int (nI (b_ + 1))), (1, .int 1), (0, .ref (Z.2.2.2 99))]) [0, 1, 2, 3] rfl ?_
          refine ih41 ((j + 1), _) ?_ ?_
          · refine ⟨by show (b_ + 1) + (j + 1) ≤ L_; omega, ?_, ?_⟩
            · rw [← hI41.2.1, skp_t h49.1 (dg_iff.mp h49.2)]; rfl
            · show _ = nvT (S.2.2 20) (b_ + 1) (j + 1)
              rw [nv_s]
              first | (rw [if_pos (show j < 2 by omega), hI41.2.2, Int32.mul_comm]; done) | (rw [if_neg (show ¬ j < 2 by omega), hI41.2.2]; done)
          · show L_ + 1 - (j + 1) < L_ + 1 - j
            omega
