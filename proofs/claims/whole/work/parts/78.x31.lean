set_option maxHeartbeats 4000000 in
set_option maxRecDepth 100000 in
theorem c_X7_readClause (Z : VZ) (S : XS) (c_ L_ g_ : Nat) (W_ N_ : Nat → Int32) (n_ k_ t_ v_ : Int32) (hL : S.1 31 = nI L_) (hL6 : L_ ≤ 60) (hT : ∀ i, i < L_ → ¬ (S.2.2.1 30) i = -1) (hc : c_ < 16) : CtS XW Z yX7_readClause cX7_readClause 5 (some .boolean) 8 0 0 [.ref (Z.2.2.2 5), .int (nI c_)] (xTk (xB S n_ W_ N_) (nI (tA (S.2.2.1 30) L_ g_)) k_ t_ v_) (fun v S' => ∃ (o : Bool) (f : Nat) (W' N' : Nat → Int32) (u : Int32), v = some (.int (bI (o = true))) ∧ S' = xTk (xB S n_ W' N') (nI (tA (S.2.2.1 30) L_ (f + 1))) (tK (S.2.2.1 30) L_ f) (nI (tB (S.2.2.1 30) L_ f)) u ∧ clR (S.2.2.1 30) L_ g_ o f ∧ (o = true → W' c_ = (tV (S.2.2.1 30) L_ g_) ∧ ∀ j, j < (mny (tV (S.2.2.1 30) L_ g_)) → N' (4 * c_ + j) = (tV (S.2.2.1 30) L_ (g_ + j + 1))) ∧ (∀ i, i ≠ c_ → W' i = W_ i) ∧ (∀ i, i < 4 * c_ → N' i = N_ i)) := by
  refine V_entryS (own := RX7) (by decide +kernel) rfl (Nat.le_of_ble_eq_true rfl) ?_
  intro B hB hst
  refine V_sub (L' := [(0, .ref (Z.2.2.2 5)), (1, .int (nI c_))]) [0, 1] rfl ?_
  refine V_aload_n (pc := 0) dX7_readClause_0 0 rfl rfl ?_
  refine V_callVS (q0 := 13) (ci := 7) (C := RX7) (T := TX7) (N := 9) (pc := 1) hst dX7_readClause_1 (c_X7_readToken Z _ (tA (S.2.2.1 30) L_ g_) L_ _ _ _ (by exact hL) (by exact hL6) (by exact hT) (by exact tA_le _ _ _)) kX7_44 rfl rfl rfl rfl (Nat.le_of_ble_eq_true rfl) (by decide) (by decide) (Nat.le_of_ble_eq_true rfl) (Nat.le_of_ble_eq_true rfl) (fun v1 S1 hp1 => ?_)
  obtain ⟨rfl, rfl⟩ := hp1
  refine V_eqS (xTk (xB S n_ W_ N_) (nI (tA (S.2.2.1 30) L_ (g_ + 1))) (tK (S.2.2.1 30) L_ g_) (nI (tB (S.2.2.1 30) L_ g_)) (tkU (S.2.2.1 30) L_ (tB (S.2.2.1 30) L_ g_) v_)) rfl ?_
  refine V_aload_n (pc := 4) dX7_readClause_4 0 rfl rfl ?_
  refine Xg_X7_31 (pc := 5) (v := (tK (S.2.2.1 30) L_ g_)) rfl dX7_readClause_5 ?_
  refine V_iconst (v := 1) (pc := 8) dX7_readClause_8 (by decide) ?_
  refine V_icmp_ne (pc := 9) (tgt := 21) dX7_readClause_9 (by decide) (fun h9 => ?_) (fun h9 => ?_)
  · skip
    refine V_iconst (v := 0) (pc := 21) dX7_readClause_21 (by decide) ?_
    exact V_zret (pc := 22) dX7_readClause_22 (Nat.le_of_ble_eq_true rfl) (Nat.le_of_ble_eq_true rfl) (Or.inl rfl) (hB _ _ (by exact ⟨false, g_, W_, N_, _, congrArg (fun z => some (Value.int z)) (bI_f (by decide)).symm, rfl, Or.inl ⟨rfl, h9, rfl⟩, fun z => absurd z (by decide), fun _ _ => rfl, fun _ _ => rfl⟩))
  · skip
    refine V_iload_n (pc := 12) dX7_readClause_12 1 rfl rfl ?_
    refine V_eqS (xTk (xB S n_ W_ N_) (nI (tA (S.2.2.1 30) L_ (g_ + 1))) (tK (S.2.2.1 30) L_ g_) (nI (tB (S.2.2.1 30) L_ g_)) (tV (S.2.2.1 30) L_ g_)) (by rw [tkU_V (Or.inl h9)]) ?_
    refine V_aload_n (pc := 13) dX7_readClause_13 0 rfl rfl ?_
    refine Xg_X7_22 (pc := 14) dX7_readClause_14 ?_
    refine Xn_33 (pc := 17) dX7_readClause_17 ?_
    refine V_icmp_lt (pc := 18) (tgt := 23) dX7_readClause_18 (by decide) (fun h18 => ?_) (fun h18 => ?_)
    · skip
      refine V_aload_n (pc := 23) dX7_readClause_23 0 rfl rfl ?_
      refine Xg_X7_22 (pc := 24) dX7_readClause_24 ?_
      refine V_iload_n (pc := 27) dX7_readClause_27 1 rfl rfl ?_
      refine V_aload_n (pc := 28) dX7_readClause_28 0 rfl rfl ?_
      refine Xg_X7_37 (pc := 29) (v := (tV (S.2.2.1 30) L_ g_)) rfl dX7_readClause_29 ?_
      refine Xs_33 (pc := 32) dX7_readClause_32 (by exact vp_in_nI (by omega) (by decide)) ?_
      refine V_eqS (xTk (xB S n_ (upd W_ c_ (tV (S.2.2.1 30) L_ g_)) N_) (nI (tA (S.2.2.1 30) L_ (g_ + 1))) (tK (S.2.2.1 30) L_ g_) (nI (tB (S.2.2.1 30) L_ g_)) (tV (S.2.2.1 30) L_ g_)) (by rw [nI_clamp (by omega)]; exact xTB_w S _ _ _ _ _ _ _ _) ?_
      refine V_aload_n (pc := 33) dX7_readClause_33 0 rfl rfl ?_
      refine Xg_X7_37 (pc := 34) (v := (tV (S.2.2.1 30) L_ g_)) rfl dX7_readClause_34 ?_
      refine V_callSi (pc := 37) dX7_readClause_37 (c_X7_numbersOf Z _ _) kX7_47 rfl (Nat.le_of_ble_eq_true rfl) (by decide) (by decide) (Nat.le_of_ble_eq_true rfl) (Nat.le_of_ble_eq_true rfl) ?_
      refine V_istore_n (pc := 40) (L2 := [(0, .ref (Z.2.2.2 5)), (1, .int (nI c_))]) dX7_readClause_40 rfl (by decide) rfl (fun x2_40 ex2_40 => ?_)
      subst ex2_40
      refine V_iconst (v := 0) (pc := 41) dX7_readClause_41 (by decide) ?_
      refine V_istore_n (pc := 42) (L2 := [(2, .int (nI (mny (tV (S.2.2.1 30) L_ g_)))), (0, .ref (Z.2.2.2 5)), (1, .int (nI c_))]) dX7_readClause_42 rfl (by decide) rfl (fun x3_42 ex3_42 => ?_)
      subst ex3_42
      refine V_sub (L' := [(3, .int (nI 0)), (2, .int (nI (mny (tV (S.2.2.1 30) L_ g_)))), (0, .ref (Z.2.2.2 5)), (1, .int (nI c_))]) [0, 1, 2, 3] rfl ?_
      refine Vloop (σ := (Nat → Int32) × Int32 × Nat) (fun x => (x.2.2) ≤ (mny (tV (S.2.2.1 30) L_ g_)) ∧ (∀ i, i < (x.2.2) → tK (S.2.2.1 30) L_ (g_ + i + 1) = 2 ∧ (x.1) (4 * c_ + i) = (tV (S.2.2.1 30) L_ (g_ + i + 1))) ∧ (∀ i, i < 4 * c_ → (x.1) i = N_ i)) (fun x => (mny (tV (S.2.2.1 30) L_ g_)) - (x.2.2)) (fun x => V XW Z cX7_readClause RX7 5 (some .boolean) 8 0 0 B 0 0 43 [(3, .int (nI (x.2.2))), (2, .int (nI (mny (tV (S.2.2.1 30) L_ g_)))), (0, .ref (Z.2.2.2 5)), (1, .int (nI c_))] [] (xTk (xB S n_ (upd W_ c_ (tV (S.2.2.1 30) L_ g_)) (x.1)) (nI (tA (S.2.2.1 30) L_ (g_ + (x.2.2) + 1))) (tK (S.2.2.1 30) L_ (g_ + (x.2.2))) (nI (tB (S.2.2.1 30) L_ (g_ + (x.2.2)))) (x.2.1))) ?_ (N_, (tV (S.2.2.1 30) L_ g_), 0) (by exact ⟨Nat.zero_le _, fun i hi => absurd hi (Nat.not_lt_zero _), fun _ _ => rfl⟩)
      rintro ⟨Nf, vv, j⟩ hI43 ih43
      have hI43 : j ≤ (mny (tV (S.2.2.1 30) L_ g_)) ∧ (∀ i, i < j → tK (S.2.2.1 30) L_ (g_ + i + 1) = 2 ∧ Nf (4 * c_ + i) = (tV (S.2.2.1 30) L_ (g_ + i + 1))) ∧ (∀ i, i < 4 * c_ → Nf i = N_ i) := hI43
      show V XW Z cX7_readClause RX7 5 (some .boolean) 8 0 0 B 0 0 43 [(3, .int (nI j)), (2, .int (nI (mny (tV (S.2.2.1 30) L_ g_)))), (0, .ref (Z.2.2.2 5)), (1, .int (nI c_))] [] (xTk (xB S n_ (upd W_ c_ (tV (S.2.2.1 30) L_ g_)) Nf) (nI (tA (S.2.2.1 30) L_ (g_ + j + 1))) (tK (S.2.2.1 30) L_ (g_ + j)) (nI (tB (S.2.2.1 30) L_ (g_ + j))) vv)
      refine V_iload_n (pc := 43) dX7_readClause_43 0 rfl rfl ?_
      refine V_iload_n (pc := 44) dX7_readClause_44 1 rfl rfl ?_
      refine V_icmp_ge (pc := 45) (tgt := 96) dX7_readClause_45 (by decide) (fun h45 => ?_) (fun h45 => ?_)
      · skip
        have hm4 := mny_le (tV (S.2.2.1 30) L_ g_)
        have hj : j = (mny (tV (S.2.2.1 30) L_ g_)) := by
          have q := (nI_leI (by omega) (by omega)).mp h45
          omega
        refine V_iconst (v := 1) (pc := 96) dX7_readClause_96 (by decide) ?_
        exact V_zret (pc := 97) dX7_readClause_97 (Nat.le_of_ble_eq_true rfl) (Nat.le_of_ble_eq_true rfl) (Or.inr rfl) (hB _ _ (by exact ⟨true, g_ + j, _, Nf, vv, congrArg (fun z => some (Value.int z)) (bI_t rfl).symm, rfl, Or.inr ⟨h9, j, fun i hi => (hI43.2.1 i hi).1, Or.inl ⟨rfl, hj, rfl⟩⟩, fun _ => ⟨if_pos rfl, fun i hi => (hI43.2.1 i (hj ▸ hi)).2⟩, fun i hi => if_neg hi, hI43.2.2⟩))
      · skip
        have hm4 := mny_le (tV (S.2.2.1 30) L_ g_)
        have hj : j < (mny (tV (S.2.2.1 30) L_ g_)) := Nat.not_le.mp (fun q => h45 (nI_le q (by omega)))
        refine V_aload_n (pc := 48) dX7_readClause_48 2 rfl rfl ?_
        refine V_callVS (q0 := 13) (ci := 7) (C := RX7) (T := TX7) (N := 9) (pc := 49) hst dX7_readClause_49 (c_X7_readToken Z _ (tA (S.2.2.1 30) L_ (g_ + j + 1)) L_ _ _ _ (by exact hL) (by exact hL6) (by exact hT) (by exact tA_le _ _ _)) kX7_44 rfl rfl rfl rfl (Nat.le_of_ble_eq_true rfl) (by decide) (by decide) (Nat.le_of_ble_eq_true rfl) (Nat.le_of_ble_eq_true rfl) (fun v49 S49 hp49 => ?_)
        obtain ⟨rfl, rfl⟩ := hp49
        refine V_eqS (xTk (xB S n_ (upd W_ c_ (tV (S.2.2.1 30) L_ g_)) Nf) (nI (tA (S.2.2.1 30) L_ (g_ + j + 1 + 1))) (tK (S.2.2.1 30) L_ (g_ + j + 1)) (nI (tB (S.2.2.1 30) L_ (g_ + j + 1))) (tkU (S.2.2.1 30) L_ (tB (S.2.2.1 30) L_ (g_ + j + 1)) vv)) rfl ?_
        refine V_iload_n (pc := 52) dX7_readClause_52 3 rfl rfl ?_
        refine V_iconst (v := 4) (pc := 53) dX7_readClause_53 (by decide) ?_
        refine V_imul (pc := 54) dX7_readClause_54 ?_
        refine V_iload_n (pc := 55) dX7_readClause_55 0 rfl rfl ?_
        refine V_iadd (pc := 56) dX7_readClause_56 ?_
        refine V_eqi (nI (4 * c_ + j)) (by rw [nI4, nI_add]) ?_
        refine V_istore (pc := 57) (L2 := [(3, .int (nI j)), (2, .int (nI (mny (tV (S.2.2.1 30) L_ g_)))), (0, .ref (Z.2.2.2 5)), (1, .int (nI c_))]) dX7_readClause_57 (by decide) rfl (fun x4_57 ex4_57 => ?_)
        subst ex4_57
        refine V_aload_n (pc := 59) dX7_readClause_59 3 rfl rfl ?_
        refine Xg_X7_31 (pc := 60) (v := (tK (S.2.2.1 30) L_ (g_ + j + 1))) rfl dX7_readClause_60 ?_
        refine V_iconst (v := 2) (pc := 63) dX7_readClause_63 (by decide) ?_
        refine V_icmp_ne (pc := 64) (tgt := 77) dX7_readClause_64 (by decide) (fun h64 => ?_) (fun h64 => ?_)
        · skip
          refine V_iconst (v := 0) (pc := 77) dX7_readClause_77 (by decide) ?_
          exact V_zret (pc := 78) dX7_readClause_78 (Nat.le_of_ble_eq_true rfl) (Nat.le_of_ble_eq_true rfl) (Or.inl rfl) (hB _ _ (by exact ⟨false, g_ + j + 1, _, Nf, _, congrArg (fun z => some (Value.int z)) (bI_f (by decide)).symm, rfl, Or.inr ⟨h9, j, fun i hi => (hI43.2.1 i hi).1, Or.inr ⟨rfl, hj, h64, rfl⟩⟩, fun z => absurd z (by decide), fun i hi => if_neg hi, hI43.2.2⟩))
        · skip
          refine V_iload (pc := 67) dX7_readClause_67 0 rfl ?_
          refine V_eqS (xTk (xB S n_ (upd W_ c_ (tV (S.2.2.1 30) L_ g_)) Nf) (nI (tA (S.2.2.1 30) L_ (g_ + j + 1 + 1))) (tK (S.2.2.1 30) L_ (g_ + j + 1)) (nI (tB (S.2.2.1 30) L_ (g_ + j + 1))) (tV (S.2.2.1 30) L_ (g_ + j + 1))) (by rw [tkU_V (Or.inr h64)]) ?_
          refine V_aload_n (pc := 69) dX7_readClause_69 3 rfl rfl ?_
          refine Xg_X7_25 (pc := 70) dX7_readClause_70 ?_
          refine Xn_34 (pc := 73) dX7_readClause_73 ?_
          refine V_icmp_lt (pc := 74) (tgt := 79) dX7_readClause_74 (by decide) (fun h74 => ?_) (fun h74 => ?_)
          · skip
            refine V_aload_n (pc := 79) dX7_readClause_79 3 rfl rfl ?_
            refine Xg_X7_25 (pc := 80) dX7_readClause_80 ?_
            refine V_iload (pc := 83) dX7_readClause_83 0 rfl ?_
            refine V_aload_n (pc := 85) dX7_readClause_85 3 rfl rfl ?_
            refine Xg_X7_37 (pc := 86) (v := (tV (S.2.2.1 30) L_ (g_ + j + 1))) rfl dX7_readClause_86 ?_
            refine Xs_34 (pc := 89) dX7_readClause_89 (by exact vp_in_nI (by omega) (by decide)) ?_
            refine V_eqS (xTk (xB S n_ (upd W_ c_ (tV (S.2.2.1 30) L_ g_)) (upd Nf (4 * c_ + j) (tV (S.2.2.1 30) L_ (g_ + j + 1)))) (nI (tA (S.2.2.1 30) L_ (g_ + j + 1 + 1))) (tK (S.2.2.1 30) L_ (g_ + j + 1)) (nI (tB (S.2.2.1 30) L_ (g_ + j + 1))) (tV (S.2.2.1 30) L_ (g_ + j + 1))) (by rw [nI_clamp (by omega)]; exact xTB_n S _ _ _ _ _ _ _ _) ?_
            refine V_iinc (pc := 90) (v := 1) (L2 := [(4, .int (nI (4 * c_ + j))), (2, .int (nI (mny (tV (S.2.2.1 30) L_ g_)))), (0, .ref (Z.2.2.2 5)), (1, .int (nI c_))]) dX7_readClause_90 1 rfl (by decide) (by decide) rfl (fun x3_90 ex3_90 => ?_)
            rw [nI_1] at ex3_90
            subst ex3_90
            refine V_goto (pc := 93) (tgt := 43) dX7_readClause_93 (by decide) ?_
            refine V_sub (L' := [(3, .int (nI (j + 1))), (2, .int (nI (mny (tV (S.2.2.1 30) L_ g_)))), (0, .ref (Z.2.2.2 5)), (1, .int (nI c_))]) [0, 2, 3, 4] rfl ?_
            refine ih43 ((upd Nf (4 * c_ + j) (tV (S.2.2.1 30) L_ (g_ + j + 1))), (tV (S.2.2.1 30) L_ (g_ + j + 1)), ((j + 1))) ?_ ?_
            · refine ⟨hj, fun i hi => ?_, fun i hi => ?_⟩
              · by_cases e : i = j
                · rw [e]; exact ⟨h64, if_pos rfl⟩
                · have hi : i < j + 1 := hi
                  refine ⟨(hI43.2.1 i (by omega)).1, ?_⟩
                  exact (if_neg (by omega)).trans (hI43.2.1 i (by omega)).2
              · exact (if_neg (by omega)).trans (hI43.2.2 i hi)
            · show (mny (tV (S.2.2.1 30) L_ g_)) - (j + 1) < (mny (tV (S.2.2.1 30) L_ g_)) - j
              omega
          · skip
            exact absurd (nI_lt (b := 64) (by omega) (by decide)) h74
    · skip
      exact absurd (nI_lt (b := 16) (by omega) (by decide)) h18
set_option maxHeartbeats 4000000 in
set_option maxRecDepth 100000 in
theorem c_X7_read (Z : VZ) (S : XS) (L_ : Nat) (hL : S.1 31 = nI L_) (hL6 : L_ ≤ 60) (hT : ∀ i, i < L_ → ¬ (S.2.2.1 30) i = -1) : CtS XW Z yX7_read cX7_read 2 (some .int) 9 0 0 [.ref (Z.2.2.2 5)] (S) (fun v S' => ∃ (n : Int32) (W' N' : Nat → Int32) (a k t u fv : Int32), v = some (.int fv) ∧ S' = xTk (xB S n W' N') a k t u ∧ ((fv = -1 ∧ ∃ c, n = nI c ∧ pOK (S.2.2.1 30) L_ c ∧ hldC (S.2.2.1 30) L_ c W' N') ∨ (∃ f, fv = nI (tB (S.2.2.1 30) L_ f) ∧ pNO (S.2.2.1 30) L_ f))) := by
  refine V_entryS (own := RX7) (by decide +kernel) rfl (Nat.le_of_ble_eq_true rfl) ?_
  intro B hB hst
  refine V_sub (L' := [(0, .ref (Z.2.2.2 5))]) [0] rfl ?_
  refine V_aload_n (pc := 0) dX7_read_0 0 rfl rfl ?_
  refine V_iconst (v := 0) (pc := 1) dX7_read_1 (by decide) ?_
  refine Xp_X7_28 (pc := 2) dX7_read_2 ?_
  refine V_aload_n (pc := 5) dX7_read_5 0 rfl rfl ?_
  refine V_iconst (v := 0) (pc := 6) dX7_read_6 (by decide) ?_
  refine Xp_X7_19 (pc := 7) dX7_read_7 ?_
  refine V_eqS _ (xTB_0 S) ?_
  refine V_iconst (v := 0) (pc := 10) dX7_read_10 (by decide) ?_
  refine V_istore_n (pc := 11) (L2 := [(0, .ref (Z.2.2.2 5))]) dX7_read_11 rfl (by decide) rfl (fun x1_11 ex1_11 => ?_)
  subst ex1_11
  have hc0 : tA (S.2.2.1 30) L_ (gCT (S.2.2.1 30) L_ 0) = 0 := rfl
  refine V_sub (L' := [(1, .int (nI 0)), (0, .ref (Z.2.2.2 5))]) [0, 1] rfl ?_
  refine Vloop (σ := (Nat → Int32) × (Nat → Int32) × Int32 × Int32 × Int32 × Nat) (fun x => preC (S.2.2.1 30) L_ (x.2.2.2.2.2) ∧ hldC (S.2.2.1 30) L_ (x.2.2.2.2.2) (x.1) (x.2.1)) (fun x => 13 - (x.2.2.2.2.2)) (fun x => V XW Z cX7_read RX7 2 (some .int) 9 0 0 B 0 0 12 [(1, .int (nI (x.2.2.2.2.2))), (0, .ref (Z.2.2.2 5))] [] (xTk (xB S (nI (x.2.2.2.2.2)) (x.1) (x.2.1)) (nI (tA (S.2.2.1 30) L_ (gCT (S.2.2.1 30) L_ (x.2.2.2.2.2)))) (x.2.2.1) (x.2.2.2.1) (x.2.2.2.2.1))) ?_ ((S.2.2.1 33), (S.2.2.1 34), (S.1 36), (S.1 37), (S.1 38), 0) (by exact ⟨fun i hi => absurd hi (Nat.not_lt_zero _), fun i hi => absurd hi (Nat.not_lt_zero _)⟩)
  rintro ⟨W, N, k, t, v, c⟩ hI12 ih12
  have hI12 : preC (S.2.2.1 30) L_ c ∧ hldC (S.2.2.1 30) L_ c W N := hI12
  show V XW Z cX7_read RX7 2 (some .int) 9 0 0 B 0 0 12 [(1, .int (nI c)), (0, .ref (Z.2.2.2 5))] [] (xTk (xB S (nI c) W N) (nI (tA (S.2.2.1 30) L_ (gCT (S.2.2.1 30) L_ c))) k t v)
  refine V_iload_n (pc := 12) dX7_read_12 0 rfl rfl ?_
  refine V_bipush (v := 16) (pc := 13) dX7_read_13 (by decide) ?_
  refine V_icmp_ge (pc := 15) (tgt := 70) dX7_read_15 (by decide) (fun h15 => ?_) (fun h15 => ?_)
  · skip
    exact absurd h15 (Int32.not_le.mpr (nI_lt (b := 16) (Nat.lt_of_le_of_lt (pre_12 hL6 hI12.1) (by decide)) (by decide)))
  · skip
    have hc12 := pre_12 hL6 hI12.1
    refine V_aload_n (pc := 18) dX7_read_18 1 rfl rfl ?_
    refine V_iload_n (pc := 19) dX7_read_19 0 rfl rfl ?_
    refine V_callVS (q0 := 13) (ci := 7) (C := RX7) (T := TX7) (N := 9) (pc := 20) hst dX7_read_20 (c_X7_readClause Z _ c L_ (gCT (S.2.2.1 30) L_ c) W N _ _ _ _ (by exact hL) (by exact hL6) (by exact hT) (by omega)) kX7_40 rfl rfl rfl rfl (Nat.le_of_ble_eq_true rfl) (by decide) (by decide) (Nat.le_of_ble_eq_true rfl) (Nat.le_of_ble_eq_true rfl) (fun v20 S20 hp20 => ?_)
    obtain ⟨o, f, W', N', u, rfl, rfl, hcl, hW, hfw, hfn⟩ := hp20
    refine V_bif_ne (pc := 23) (tgt := 31) dX7_read_23 (by decide) (fun h23 => ?_) (fun h23 => ?_)
    · skip
      obtain ⟨hgd, ef⟩ := clR_t hcl h23
      have hpr : tK (S.2.2.1 30) L_ (sxT (S.2.2.1 30) L_ c) = 3 → preC (S.2.2.1 30) L_ (c + 1) := fun z i hi => by
        by_cases e : i = c
        · rw [e]; exact ⟨hgd, z⟩
        · exact hI12.1 i (by omega)
      have hho : hldC (S.2.2.1 30) L_ (c + 1) W' N' := fun i hi => by
        by_cases e : i = c
        · rw [e]; exact hW h23
        · refine ⟨(hfw i e).trans (hI12.2 i (by omega)).1, fun j hj => ?_⟩
          have hm := mny_le (tV (S.2.2.1 30) L_ (gCT (S.2.2.1 30) L_ i))
          exact (hfn _ (by omega)).trans ((hI12.2 i (by omega)).2 j hj)
      refine V_aload_n (pc := 31) dX7_read_31 1 rfl rfl ?_
      refine V_iload_n (pc := 32) dX7_read_32 0 rfl rfl ?_
      refine V_iconst (v := 1) (pc := 33) dX7_read_33 (by decide) ?_
      refine V_iadd (pc := 34) dX7_read_34 ?_
      refine Xp_X7_19 (pc := 35) dX7_read_35 ?_
      refine V_eqS (xTk (xB S (nI (c + 1)) W' N') (nI (tA (S.2.2.1 30) L_ (f + 1))) (tK (S.2.2.1 30) L_ f) (nI (tB (S.2.2.1 30) L_ f)) u) (by rw [nI_1]; exact xTB_c S _ _ _ _ _ _ _ _) ?_
      refine V_aload_n (pc := 38) dX7_read_38 1 rfl rfl ?_
      refine V_callVS (q0 := 13) (ci := 7) (C := RX7) (T := TX7) (N := 9) (pc := 39) hst dX7_read_39 (c_X7_readToken Z _ (tA (S.2.2.1 30) L_ (f + 1)) L_ _ _ _ (by exact hL) (by exact hL6) (by exact hT) (by exact tA_le _ _ _)) kX7_44 rfl rfl rfl rfl (Nat.le_of_ble_eq_true rfl) (by decide) (by decide) (Nat.le_of_ble_eq_true rfl) (Nat.le_of_ble_eq_true rfl) (fun v39 S39 hp39 => ?_)
      obtain ⟨rfl, rfl⟩ := hp39
      refine V_eqS (xTk (xB S (nI (c + 1)) W' N') (nI (tA (S.2.2.1 30) L_ ((sxT (S.2.2.1 30) L_ c) + 1))) (tK (S.2.2.1 30) L_ (sxT (S.2.2.1 30) L_ c)) (nI (tB (S.2.2.1 30) L_ (sxT (S.2.2.1 30) L_ c))) (tkU (S.2.2.1 30) L_ (tB (S.2.2.1 30) L_ (sxT (S.2.2.1 30) L_ c)) u)) (by rw [← ef]; rfl) ?_
      refine V_aload_n (pc := 42) dX7_read_42 1 rfl rfl ?_
      refine Xg_X7_31 (pc := 43) (v := (tK (S.2.2.1 30) L_ (sxT (S.2.2.1 30) L_ c))) rfl dX7_read_43 ?_
      refine V_if_ne (pc := 46) (tgt := 51) dX7_read_46 (by decide) (fun h46 => ?_) (fun h46 => ?_)
      · skip
        refine V_aload_n (pc := 51) dX7_read_51 1 rfl rfl ?_
        refine Xg_X7_31 (pc := 52) (v := (tK (S.2.2.1 30) L_ (sxT (S.2.2.1 30) L_ c))) rfl dX7_read_52 ?_
        refine V_iconst (v := 3) (pc := 55) dX7_read_55 (by decide) ?_
        refine V_icmp_eq (pc := 56) (tgt := 64) dX7_read_56 (by decide) (fun h56 => ?_) (fun h56 => ?_)
        · skip
          refine V_iinc (pc := 64) (v := 1) (L2 := [(0, .ref (Z.2.2.2 5))]) dX7_read_64 0 rfl (by decide) (by decide) rfl (fun x1_64 ex1_64 => ?_)
          rw [nI_1] at ex1_64
          subst ex1_64
          refine V_goto (pc := 67) (tgt := 12) dX7_read_67 (by decide) ?_
          refine V_sub (L' := [(1, .int (nI (c + 1))), (0, .ref (Z.2.2.2 5))]) [0, 1] rfl ?_
          refine ih12 (W', N', (tK (S.2.2.1 30) L_ (sxT (S.2.2.1 30) L_ c)), (nI (tB (S.2.2.1 30) L_ (sxT (S.2.2.1 30) L_ c))), (tkU (S.2.2.1 30) L_ (tB (S.2.2.1 30) L_ (sxT (S.2.2.1 30) L_ c)) u), ((c + 1))) ?_ ?_
          · exact ⟨hpr h56, hho⟩
          · have := pre_12 hL6 (hpr h56)
            show 13 - (c + 1) < 13 - c
            omega
        · skip
          refine V_aload_n (pc := 59) dX7_read_59 1 rfl rfl ?_
          refine Xg_X7_34 (pc := 60) (v := (nI (tB (S.2.2.1 30) L_ (sxT (S.2.2.1 30) L_ c)))) rfl dX7_read_60 ?_
          exact V_iret (pc := 63) dX7_read_63 (Nat.le_of_ble_eq_true rfl) (Nat.le_of_ble_eq_true rfl) (hB _ _ (by exact ⟨_, _, _, _, _, _, _, _, rfl, rfl, Or.inr ⟨_, rfl, c, hI12.1, Or.inr (Or.inr ⟨hgd, h46, h56, rfl⟩)⟩⟩))
      · skip
        refine V_iconst (v := (-1)) (pc := 49) dX7_read_49 (by decide) ?_
        exact V_iret (pc := 50) dX7_read_50 (Nat.le_of_ble_eq_true rfl) (Nat.le_of_ble_eq_true rfl) (hB _ _ (by exact ⟨_, _, _, _, _, _, _, _, rfl, rfl, Or.inl ⟨rfl, c + 1, rfl, ⟨c, rfl, hI12.1, hgd, h46⟩, hho⟩⟩))
    · skip
      refine V_aload_n (pc := 26) dX7_read_26 1 rfl rfl ?_
      refine Xg_X7_34 (pc := 27) (v := (nI (tB (S.2.2.1 30) L_ f))) rfl dX7_read_27 ?_
      exact V_iret (pc := 30) dX7_read_30 (Nat.le_of_ble_eq_true rfl) (Nat.le_of_ble_eq_true rfl) (hB _ _ (by exact ⟨_, _, _, _, _, _, _, _, rfl, rfl, Or.inr ⟨f, rfl, c, hI12.1, clR_f hcl h23⟩⟩))
