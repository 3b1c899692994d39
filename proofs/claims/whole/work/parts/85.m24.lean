def mB (S : MS) (n : Int32) (W N : Nat → Int32) : MS := (fun j => if j = 26 then n else S.1 j, S.2.1, fun j => if j = 27 then W else if j = 28 then N else S.2.2 j)
theorem mTB_w (S : MS) (n : Int32) (W N F : Nat → Int32) (a b k v : Int32) : mA (mTk (mB S n W N) a b k v) 27 F = mTk (mB S n F N) a b k v := by
  refine Prod.ext rfl (Prod.ext rfl (funext fun j => ?_))
  simp only [mTk, mB, mA, va_up]
  repeat' split
  all_goals first | rfl | omega
theorem mTB_n (S : MS) (n : Int32) (W N F : Nat → Int32) (a b k v : Int32) : mA (mTk (mB S n W N) a b k v) 28 F = mTk (mB S n W F) a b k v := by
  refine Prod.ext rfl (Prod.ext rfl (funext fun j => ?_))
  simp only [mTk, mB, mA, va_up]
  repeat' split
  all_goals first | rfl | omega
theorem mTB_c (S : MS) (n x : Int32) (W N : Nat → Int32) (a b k v : Int32) : mF (mTk (mB S n W N) a b k v) 26 x = mTk (mB S x W N) a b k v := by
  refine Prod.ext (funext fun j => ?_) rfl
  simp only [mTk, mB, mF, va_up]
  repeat' split
  all_goals first | rfl | omega
theorem mTB_0 (S : MS) : mF (mF S 22 0) 26 0 = mTk (mB S 0 (S.2.2 27) (S.2.2 28)) 0 (S.1 23) (S.1 24) (S.1 25) := by
  refine Prod.ext (funext fun j => ?_) (Prod.ext rfl (funext fun j => ?_))
  · simp only [mTk, mB, mF, va_up]
    repeat' split
    all_goals first | rfl | (subst_vars; rfl) | omega
  · simp only [mTk, mB, mF, va_up]
    repeat' split
    all_goals first | rfl | (subst_vars; rfl)
theorem nI4' (c : Nat) : 4 * nI c = nI (4 * c) := by rw [Int32.mul_comm, nI4]
set_option maxHeartbeats 4000000 in
set_option maxRecDepth 100000 in
theorem cM_takesClause (Z : VZ) (S : MS) (c_ L_ g_ : Nat) (W_ N_ : Nat → Int32) (v_ : Int32) (hL : S.1 21 = nI L_) (hL6 : L_ ≤ 60) (hc : c_ < 16) (hv : tK (S.2.2 20) L_ g_ = 1 → v_ = (tV (S.2.2 20) L_ g_)) : CtS MW Z yX11_takesClause cX11_takesClause 3 (some .boolean) 7 0 0 [.ref (Z.2.2.2 99)] (mTk (mB S (nI c_) W_ N_) (nI (tA (S.2.2 20) L_ (g_ + 1))) (nI (tB (S.2.2 20) L_ g_)) (tK (S.2.2 20) L_ g_) v_) (fun v S' => ∃ (o : Bool) (f p : Nat) (W' N' : Nat → Int32) (n u : Int32), v = some (.int (bI (o = true))) ∧ S' = mTk (mB S n W' N') (nI (tA (S.2.2 20) L_ (p + 1))) (nI (tB (S.2.2 20) L_ p)) (tK (S.2.2 20) L_ p) u ∧ clR (S.2.2 20) L_ g_ o f ∧ (o = true → p = f + 1 ∧ n = nI (c_ + 1) ∧ W' c_ = (tV (S.2.2 20) L_ g_) ∧ ∀ j, j < (mny (tV (S.2.2 20) L_ g_)) → N' (4 * c_ + j) = (tV (S.2.2 20) L_ (g_ + j + 1))) ∧ (¬ o = true → p = f) ∧ (∀ i, i ≠ c_ → W' i = W_ i) ∧ (∀ i, i < 4 * c_ → N' i = N_ i)) := by
  refine V_entryS (own := RX11) (by decide +kernel) rfl (Nat.le_of_ble_eq_true rfl) ?_
  intro B hB hst
  refine V_sub (L' := [(0, .ref (Z.2.2.2 99))]) [0] rfl ?_
  refine V_aload_n (pc := 0) dX11_takesClause_0 0 rfl rfl ?_
  refine Mg_token (pc := 1) (v := (tK (S.2.2 20) L_ g_)) rfl dX11_takesClause_1 ?_
  refine V_iconst (v := 1) (pc := 4) dX11_takesClause_4 (by decide) ?_
  refine V_icmp_eq (pc := 5) (tgt := 10) dX11_takesClause_5 (by decide) (fun h5 => ?_) (fun h5 => ?_)
  · skip
    refine V_aload_n (pc := 10) dX11_takesClause_10 0 rfl rfl ?_
    refine V_eqS (mTk (mB S (nI c_) W_ N_) (nI (tA (S.2.2 20) L_ (g_ + 1))) (nI (tB (S.2.2 20) L_ g_)) (tK (S.2.2 20) L_ g_) (tV (S.2.2 20) L_ g_)) (by rw [hv h5]) ?_
    refine Mg_words (pc := 11) dX11_takesClause_11 ?_
    refine V_aload_n (pc := 14) dX11_takesClause_14 0 rfl rfl ?_
    refine Mg_clauses (pc := 15) (v := (nI c_)) rfl dX11_takesClause_15 ?_
    refine V_aload_n (pc := 18) dX11_takesClause_18 0 rfl rfl ?_
    refine Mg_value (pc := 19) (v := (tV (S.2.2 20) L_ g_)) rfl dX11_takesClause_19 ?_
    refine Ms_words (pc := 22) dX11_takesClause_22 (by exact vp_in_nI (by omega) (by decide)) ?_
    refine V_eqS (mTk (mB S (nI c_) (upd W_ c_ (tV (S.2.2 20) L_ g_)) N_) (nI (tA (S.2.2 20) L_ (g_ + 1))) (nI (tB (S.2.2 20) L_ g_)) (tK (S.2.2 20) L_ g_) (tV (S.2.2 20) L_ g_)) (by rw [nI_clamp (by omega)]; exact mTB_w S _ _ _ _ _ _ _ _) ?_
    refine V_aload_n (pc := 23) dX11_takesClause_23 0 rfl rfl ?_
    refine Mg_value (pc := 24) (v := (tV (S.2.2 20) L_ g_)) rfl dX11_takesClause_24 ?_
    refine McSi (pc := 27) dX11_takesClause_27 (cM_manyOf Z _ _) kM_301 rfl (Nat.le_of_ble_eq_true rfl) (by decide) (by decide) ?_
    refine V_eqi (nI (mny (tV (S.2.2 20) L_ g_))) (mny_i _) ?_
    refine V_istore_n (pc := 30) (L2 := [(0, .ref (Z.2.2.2 99))]) dX11_takesClause_30 rfl (by decide) rfl (fun x1_30 ex1_30 => ?_)
    subst ex1_30
    refine V_aload_n (pc := 31) dX11_takesClause_31 1 rfl rfl ?_
    refine V_callVS (q0 := 0) (ci := 11) (C := RX11) (T := TX11) (N := 35) (pc := 32) hst dX11_takesClause_32 (cM_look Z _ (tA (S.2.2 20) L_ (g_ + 1)) L_ _ _ _ (by exact hL) (by exact hL6) (by exact tA_le _ _ _)) kM_304 rfl rfl rfl rfl (Nat.le_of_ble_eq_true rfl) (by decide) (by decide) (Nat.le_of_ble_eq_true rfl) (Nat.le_of_ble_eq_true rfl) (fun v32 S32 hp32 => ?_)
    obtain ⟨rfl, rfl⟩ := hp32
    refine V_eqS (mTk (mB S (nI c_) (upd W_ c_ (tV (S.2.2 20) L_ g_)) N_) (nI (tA (S.2.2 20) L_ (g_ + 0 + 1 + 1))) (nI (tB (S.2.2 20) L_ (g_ + 0 + 1))) (tK (S.2.2 20) L_ (g_ + 0 + 1)) (tkM (S.2.2 20) L_ (tB (S.2.2 20) L_ (g_ + 1)) (tV (S.2.2 20) L_ g_))) rfl ?_
    refine V_iconst (v := 0) (pc := 35) dX11_takesClause_35 (by decide) ?_
    refine V_istore_n (pc := 36) (L2 := [(1, .int (nI (mny (tV (S.2.2 20) L_ g_)))), (0, .ref (Z.2.2.2 99))]) dX11_takesClause_36 rfl (by decide) rfl (fun x2_36 ex2_36 => ?_)
    subst ex2_36
    refine V_sub (L' := [(2, .int (nI 0)), (1, .int (nI (mny (tV (S.2.2 20) L_ g_)))), (0, .ref (Z.2.2.2 99))]) [0, 1, 2] rfl ?_
    refine Vloop (σ := (Nat → Int32) × Int32 × Nat) (fun x => (x.2.2) ≤ (mny (tV (S.2.2 20) L_ g_)) ∧ (∀ i, i < (x.2.2) → tK (S.2.2 20) L_ (g_ + i + 1) = 2 ∧ (x.1) (4 * c_ + i) = (tV (S.2.2 20) L_ (g_ + i + 1))) ∧ (∀ i, i < 4 * c_ → (x.1) i = N_ i) ∧ (tK (S.2.2 20) L_ (g_ + (x.2.2) + 1) = 2 → (x.2.1) = (tV (S.2.2 20) L_ (g_ + (x.2.2) + 1)))) (fun x => (mny (tV (S.2.2 20) L_ g_)) - (x.2.2)) (fun x => V MW Z cX11_takesClause RX11 3 (some .boolean) 7 0 0 B 0 0 37 [(2, .int (nI (x.2.2))), (1, .int (nI (mny (tV (S.2.2 20) L_ g_)))), (0, .ref (Z.2.2.2 99))] [] (mTk (mB S (nI c_) (upd W_ c_ (tV (S.2.2 20) L_ g_)) (x.1)) (nI (tA (S.2.2 20) L_ (g_ + (x.2.2) + 1 + 1))) (nI (tB (S.2.2 20) L_ (g_ + (x.2.2) + 1))) (tK (S.2.2 20) L_ (g_ + (x.2.2) + 1)) (x.2.1))) ?_ (N_, (tkM (S.2.2 20) L_ (tB (S.2.2 20) L_ (g_ + 1)) (tV (S.2.2 20) L_ g_)), 0) (by exact ⟨Nat.zero_le _, fun i hi => absurd hi (Nat.not_lt_zero _), fun _ _ => rfl, fun z => tkM_V (Or.inr z)⟩)
    rintro ⟨Nf, vv, j⟩ hI37 ih37
    have hI37 : j ≤ (mny (tV (S.2.2 20) L_ g_)) ∧ (∀ i, i < j → tK (S.2.2 20) L_ (g_ + i + 1) = 2 ∧ Nf (4 * c_ + i) = (tV (S.2.2 20) L_ (g_ + i + 1))) ∧ (∀ i, i < 4 * c_ → Nf i = N_ i) ∧ (tK (S.2.2 20) L_ (g_ + j + 1) = 2 → vv = (tV (S.2.2 20) L_ (g_ + j + 1))) := hI37
    show V MW Z cX11_takesClause RX11 3 (some .boolean) 7 0 0 B 0 0 37 [(2, .int (nI j)), (1, .int (nI (mny (tV (S.2.2 20) L_ g_)))), (0, .ref (Z.2.2.2 99))] [] (mTk (mB S (nI c_) (upd W_ c_ (tV (S.2.2 20) L_ g_)) Nf) (nI (tA (S.2.2 20) L_ (g_ + j + 1 + 1))) (nI (tB (S.2.2 20) L_ (g_ + j + 1))) (tK (S.2.2 20) L_ (g_ + j + 1)) vv)
    refine V_iload_n (pc := 37) dX11_takesClause_37 0 rfl rfl ?_
    refine V_iload_n (pc := 38) dX11_takesClause_38 1 rfl rfl ?_
    refine V_icmp_ge (pc := 39) (tgt := 79) dX11_takesClause_39 (by decide) (fun h39 => ?_) (fun h39 => ?_)
    · skip
      have hm4 := mny_le (tV (S.2.2 20) L_ g_)
      have hj : j = (mny (tV (S.2.2 20) L_ g_)) := by
        have q := (nI_leI (by omega) (by omega)).mp h39
        omega
      refine V_aload_n (pc := 79) dX11_takesClause_79 2 rfl rfl ?_
      refine V_dup (pc := 80) dX11_takesClause_80 rfl ?_
      refine Mg_clauses (pc := 81) (v := (nI c_)) rfl dX11_takesClause_81 ?_
      refine V_iconst (v := 1) (pc := 84) dX11_takesClause_84 (by decide) ?_
      refine V_iadd (pc := 85) dX11_takesClause_85 ?_
      refine Mp_clauses (pc := 86) dX11_takesClause_86 ?_
      refine V_eqS (mTk (mB S (nI (c_ + 1)) (upd W_ c_ (tV (S.2.2 20) L_ g_)) Nf) (nI (tA (S.2.2 20) L_ (g_ + j + 1 + 1))) (nI (tB (S.2.2 20) L_ (g_ + j + 1))) (tK (S.2.2 20) L_ (g_ + j + 1)) vv) (by rw [nI_1]; exact mTB_c S _ _ _ _ _ _ _ _) ?_
      refine V_iconst (v := 1) (pc := 89) dX11_takesClause_89 (by decide) ?_
      exact V_zret (pc := 90) dX11_takesClause_90 (Nat.le_of_ble_eq_true rfl) (Nat.le_of_ble_eq_true rfl) (Or.inr rfl) (hB _ _ (by exact ⟨true, g_ + j, g_ + j + 1, _, Nf, _, vv, congrArg (fun z => some (Value.int z)) (bI_t rfl).symm, rfl, Or.inr ⟨h5, j, fun i hi => (hI37.2.1 i hi).1, Or.inl ⟨rfl, hj, rfl⟩⟩, fun _ => ⟨rfl, rfl, if_pos rfl, fun i hi => (hI37.2.1 i (hj ▸ hi)).2⟩, fun z => absurd rfl z, fun i hi => if_neg hi, hI37.2.2.1⟩))
    · skip
      have hm4 := mny_le (tV (S.2.2 20) L_ g_)
      have hj : j < (mny (tV (S.2.2 20) L_ g_)) := Nat.not_le.mp (fun q => h39 (nI_le q (by omega)))
      refine V_aload_n (pc := 42) dX11_takesClause_42 2 rfl rfl ?_
      refine Mg_token (pc := 43) (v := (tK (S.2.2 20) L_ (g_ + j + 1))) rfl dX11_takesClause_43 ?_
      refine V_iconst (v := 2) (pc := 46) dX11_takesClause_46 (by decide) ?_
      refine V_icmp_eq (pc := 47) (tgt := 52) dX11_takesClause_47 (by decide) (fun h47 => ?_) (fun h47 => ?_)
      · skip
        refine V_aload_n (pc := 52) dX11_takesClause_52 2 rfl rfl ?_
        refine Mg_numbers (pc := 53) dX11_takesClause_53 ?_
        refine V_iconst (v := 4) (pc := 56) dX11_takesClause_56 (by decide) ?_
        refine V_aload_n (pc := 57) dX11_takesClause_57 2 rfl rfl ?_
        refine Mg_clauses (pc := 58) (v := (nI c_)) rfl dX11_takesClause_58 ?_
        refine V_imul (pc := 61) dX11_takesClause_61 ?_
        refine V_iload_n (pc := 62) dX11_takesClause_62 0 rfl rfl ?_
        refine V_iadd (pc := 63) dX11_takesClause_63 ?_
        refine V_eqi (nI (4 * c_ + j)) (by rw [nI4', nI_add]) ?_
        refine V_aload_n (pc := 64) dX11_takesClause_64 2 rfl rfl ?_
        refine Mg_value (pc := 65) (v := vv) rfl dX11_takesClause_65 ?_
        refine Ms_numbers (pc := 68) dX11_takesClause_68 (by exact vp_in_nI (by omega) (by decide)) ?_
        refine V_eqS (mTk (mB S (nI c_) (upd W_ c_ (tV (S.2.2 20) L_ g_)) (upd Nf (4 * c_ + j) (tV (S.2.2 20) L_ (g_ + j + 1)))) (nI (tA (S.2.2 20) L_ (g_ + j + 1 + 1))) (nI (tB (S.2.2 20) L_ (g_ + j + 1))) (tK (S.2.2 20) L_ (g_ + j + 1)) vv) (by rw [nI_clamp (by omega), ← hI37.2.2.2 h47]; exact mTB_n S _ _ _ _ _ _ _ _) ?_
        refine V_aload_n (pc := 69) dX11_takesClause_69 2 rfl rfl ?_
        refine V_callVS (q0 := 0) (ci := 11) (C := RX11) (T := TX11) (N := 35) (pc := 70) hst dX11_takesClause_70 (cM_look Z _ (tA (S.2.2 20) L_ (g_ + j + 1 + 1)) L_ _ _ _ (by exact hL) (by exact hL6) (by exact tA_le _ _ _)) kM_304 rfl rfl rfl rfl (Nat.le_of_ble_eq_true rfl) (by decide) (by decide) (Nat.le_of_ble_eq_true rfl) (Nat.le_of_ble_eq_true rfl) (fun v70 S70 hp70 => ?_)
        obtain ⟨rfl, rfl⟩ := hp70
        refine V_eqS (mTk (mB S (nI c_) (upd W_ c_ (tV (S.2.2 20) L_ g_)) (upd Nf (4 * c_ + j) (tV (S.2.2 20) L_ (g_ + j + 1)))) (nI (tA (S.2.2 20) L_ (g_ + (j + 1) + 1 + 1))) (nI (tB (S.2.2 20) L_ (g_ + (j + 1) + 1))) (tK (S.2.2 20) L_ (g_ + (j + 1) + 1)) (tkM (S.2.2 20) L_ (tB (S.2.2 20) L_ (g_ + j + 1 + 1)) vv)) rfl ?_
        refine V_iinc (pc := 73) (v := 1) (L2 := [(1, .int (nI (mny (tV (S.2.2 20) L_ g_)))), (0, .ref (Z.2.2.2 99))]) dX11_takesClause_73 0 rfl (by decide) (by decide) rfl (fun x2_73 ex2_73 => ?_)
        rw [nI_1] at ex2_73
        subst ex2_73
        refine V_goto (pc := 76) (tgt := 37) dX11_takesClause_76 (by decide) ?_
        refine V_sub (L' := [(2, .int (nI (j + 1))), (1, .int (nI (mny (tV (S.2.2 20) L_ g_)))), (0, .ref (Z.2.2.2 99))]) [0, 1, 2] rfl ?_
        refine ih37 ((upd Nf (4 * c_ + j) (tV (S.2.2 20) L_ (g_ + j + 1))), (tkM (S.2.2 20) L_ (tB (S.2.2 20) L_ (g_ + j + 1 + 1)) vv), ((j + 1))) ?_ ?_
        · refine ⟨hj, fun i hi => ?_, fun i hi => ?_, fun z => tkM_V (Or.inr z)⟩
          · by_cases e : i = j
            · rw [e]; exact ⟨h47, if_pos rfl⟩
            · have hi : i < j + 1 := hi
              refine ⟨(hI37.2.1 i (by omega)).1, ?_⟩
              exact (if_neg (by omega)).trans (hI37.2.1 i (by omega)).2
          · exact (if_neg (by omega)).trans (hI37.2.2.1 i hi)
        · show (mny (tV (S.2.2 20) L_ g_)) - (j + 1) < (mny (tV (S.2.2 20) L_ g_)) - j
          omega
      · skip
        refine V_iconst (v := 0) (pc := 50) dX11_takesClause_50 (by decide) ?_
        exact V_zret (pc := 51) dX11_takesClause_51 (Nat.le_of_ble_eq_true rfl) (Nat.le_of_ble_eq_true rfl) (Or.inl rfl) (hB _ _ (by exact ⟨false, g_ + j + 1, g_ + j + 1, _, Nf, _, _, congrArg (fun z => some (Value.int z)) (bI_f (by decide)).symm, rfl, Or.inr ⟨h5, j, fun i hi => (hI37.2.1 i hi).1, Or.inr ⟨rfl, hj, h47, rfl⟩⟩, fun z => absurd z (by decide), fun _ => rfl, fun i hi => if_neg hi, hI37.2.2.1⟩))
  · skip
    refine V_iconst (v := 0) (pc := 8) dX11_takesClause_8 (by decide) ?_
    exact V_zret (pc := 9) dX11_takesClause_9 (Nat.le_of_ble_eq_true rfl) (Nat.le_of_ble_eq_true rfl) (Or.inl rfl) (hB _ _ (by exact ⟨false, g_, g_, W_, N_, _, _, congrArg (fun z => some (Value.int z)) (bI_f (by decide)).symm, rfl, Or.inl ⟨rfl, h5, rfl⟩, fun z => absurd z (by decide), fun _ => rfl, fun _ _ => rfl, fun _ _ => rfl⟩))
set_option maxHeartbeats 4000000 in
set_option maxRecDepth 100000 in
theorem cM_takesAll (Z : VZ) (S : MS) (L_ : Nat) (hL : S.1 21 = nI L_) (hL6 : L_ ≤ 60) : CtS MW Z yX11_takesAll cX11_takesAll 1 (some .boolean) 8 0 0 [.ref (Z.2.2.2 99)] (S) (fun v S' => ∃ (o : Bool) (n : Int32) (W' N' : Nat → Int32) (a k u : Int32) (p : Nat), v = some (.int (bI (o = true))) ∧ S' = mTk (mB S n W' N') a (nI (tB (S.2.2 20) L_ p)) k u ∧ (o = true → ∃ c, n = nI c ∧ pOK (S.2.2 20) L_ c ∧ hldC (S.2.2 20) L_ c W' N') ∧ (¬ o = true → pNO (S.2.2 20) L_ p)) := by
  refine V_entryS (own := RX11) (by decide +kernel) rfl (Nat.le_of_ble_eq_true rfl) ?_
  intro B hB hst
  refine V_sub (L' := [(0, .ref (Z.2.2.2 99))]) [0] rfl ?_
  refine V_aload_n (pc := 0) dX11_takesAll_0 0 rfl rfl ?_
  refine V_iconst (v := 0) (pc := 1) dX11_takesAll_1 (by decide) ?_
  refine Mp_at (pc := 2) dX11_takesAll_2 ?_
  refine V_aload_n (pc := 5) dX11_takesAll_5 0 rfl rfl ?_
  refine V_iconst (v := 0) (pc := 6) dX11_takesAll_6 (by decide) ?_
  refine Mp_clauses (pc := 7) dX11_takesAll_7 ?_
  refine V_eqS _ (mTB_0 S) ?_
  refine V_aload_n (pc := 10) dX11_takesAll_10 0 rfl rfl ?_
  refine V_callVS (q0 := 0) (ci := 11) (C := RX11) (T := TX11) (N := 35) (pc := 11) hst dX11_takesAll_11 (cM_look Z _ 0 L_ _ _ _ (by exact hL) (by exact hL6) (by exact Nat.zero_le _)) kM_304 rfl rfl rfl rfl (Nat.le_of_ble_eq_true rfl) (by decide) (by decide) (Nat.le_of_ble_eq_true rfl) (Nat.le_of_ble_eq_true rfl) (fun v11 S11 hp11 => ?_)
  obtain ⟨rfl, rfl⟩ := hp11
  refine V_eqS (mTk (mB S (nI 0) (S.2.2 27) (S.2.2 28)) (nI (tA (S.2.2 20) L_ ((gCT (S.2.2 20) L_ 0) + 1))) (nI (tB (S.2.2 20) L_ (gCT (S.2.2 20) L_ 0))) (tK (S.2.2 20) L_ (gCT (S.2.2 20) L_ 0)) (tkM (S.2.2 20) L_ (tB (S.2.2 20) L_ (gCT (S.2.2 20) L_ 0)) (S.1 25))) rfl ?_
  refine V_aload_n (pc := 14) dX11_takesAll_14 0 rfl rfl ?_
  refine V_callVS (q0 := 0) (ci := 11) (C := RX11) (T := TX11) (N := 35) (pc := 15) hst dX11_takesAll_15 (cM_takesClause Z _ 0 L_ (gCT (S.2.2 20) L_ 0) _ _ _ (by exact hL) (by exact hL6) (by decide) (by exact fun z => tkM_V (Or.inl z))) kM_307 rfl rfl rfl rfl (Nat.le_of_ble_eq_true rfl) (by decide) (by decide) (Nat.le_of_ble_eq_true rfl) (Nat.le_of_ble_eq_true rfl) (fun v15 S15 hp15 => ?_)
  obtain ⟨o1, f1, p1, W1, N1, n1, u1, rfl, rfl, hcl1, ht1, hf1, hfw1, hfn1⟩ := hp15
  refine V_bif_ne (pc := 18) (tgt := 23) dX11_takesAll_18 (by decide) (fun h18 => ?_) (fun h18 => ?_)
  · skip
    obtain ⟨hgd1, ef1⟩ := clR_t hcl1 h18
    obtain ⟨q1, q2, q3, q4⟩ := ht1 h18
    have hho1 : hldC (S.2.2 20) L_ (0 + 1) W1 N1 := fun i hi => by
      rw [show i = 0 by omega]; exact ⟨q3, q4⟩
    refine V_eqS (mTk (mB S (nI (0 + 1)) W1 N1) (nI (tA (S.2.2 20) L_ ((sxT (S.2.2 20) L_ 0) + 1))) (nI (tB (S.2.2 20) L_ (sxT (S.2.2 20) L_ 0))) (tK (S.2.2 20) L_ (sxT (S.2.2 20) L_ 0)) u1) (by rw [q2, q1, ef1]) ?_
    refine Vloop (σ := Nat × (Nat → Int32) × (Nat → Int32) × Int32) (fun x => preC (S.2.2 20) L_ (x.1) ∧ gdC (S.2.2 20) L_ (x.1) ∧ hldC (S.2.2 20) L_ ((x.1) + 1) (x.2.1) (x.2.2.1)) (fun x => 13 - (x.1)) (fun x => V MW Z cX11_takesAll RX11 1 (some .boolean) 8 0 0 B 0 0 23 [(0, .ref (Z.2.2.2 99))] [] (mTk (mB S (nI ((x.1) + 1)) (x.2.1) (x.2.2.1)) (nI (tA (S.2.2 20) L_ ((sxT (S.2.2 20) L_ (x.1)) + 1))) (nI (tB (S.2.2 20) L_ (sxT (S.2.2 20) L_ (x.1)))) (tK (S.2.2 20) L_ (sxT (S.2.2 20) L_ (x.1))) (x.2.2.2))) ?_ (0, W1, N1, u1) (by exact ⟨fun i hi => absurd hi (Nat.not_lt_zero _), hgd1, hho1⟩)
    rintro ⟨c, W, N, v⟩ hI23 ih23
    have hI23 : preC (S.2.2 20) L_ c ∧ gdC (S.2.2 20) L_ c ∧ hldC (S.2.2 20) L_ (c + 1) W N := hI23
    show V MW Z cX11_takesAll RX11 1 (some .boolean) 8 0 0 B 0 0 23 [(0, .ref (Z.2.2.2 99))] [] (mTk (mB S (nI (c + 1)) W N) (nI (tA (S.2.2 20) L_ ((sxT (S.2.2 20) L_ c) + 1))) (nI (tB (S.2.2 20) L_ (sxT (S.2.2 20) L_ c))) (tK (S.2.2 20) L_ (sxT (S.2.2 20) L_ c)) v)
    refine V_aload_n (pc := 23) dX11_takesAll_23 0 rfl rfl ?_
    refine Mg_token (pc := 24) (v := (tK (S.2.2 20) L_ (sxT (S.2.2 20) L_ c))) rfl dX11_takesAll_24 ?_
    refine V_iconst (v := 3) (pc := 27) dX11_takesAll_27 (by decide) ?_
    refine V_icmp_ne (pc := 28) (tgt := 44) dX11_takesAll_28 (by decide) (fun h28 => ?_) (fun h28 => ?_)
    · skip
      refine V_aload_n (pc := 44) dX11_takesAll_44 0 rfl rfl ?_
      refine Mg_token (pc := 45) (v := (tK (S.2.2 20) L_ (sxT (S.2.2 20) L_ c))) rfl dX11_takesAll_45 ?_
      refine V_if_ne (pc := 48) (tgt := 55) dX11_takesAll_48 (by decide) (fun h48 => ?_) (fun h48 => ?_)
      · skip
        refine V_iconst (v := 0) (pc := 55) dX11_takesAll_55 (by decide) ?_
        exact V_zret (pc := 56) dX11_takesAll_56 (Nat.le_of_ble_eq_true rfl) (Nat.le_of_ble_eq_true rfl) (Or.inl rfl) (hB _ _ (by first | exact ⟨true, _, W, N, _, _, v, (sxT (S.2.2 20) L_ c), congrArg (fun z => some (Value.int z)) (bI_t rfl).symm, rfl, fun _ => ⟨c + 1, rfl, ⟨c, rfl, hI23.1, hI23.2.1, h48⟩, hI23.2.2⟩, fun z => absurd rfl z⟩ | exact ⟨false, _, W, N, _, _, v, (sxT (S.2.2 20) L_ c), congrArg (fun z => some (Value.int z)) (bI_f (by decide)).symm, rfl, fun z => absurd z (by decide), fun _ => ⟨c, hI23.1, Or.inr (Or.inr ⟨hI23.2.1, h48, h28, rfl⟩)⟩⟩))
      · skip
        refine V_iconst (v := 1) (pc := 51) dX11_takesAll_51 (by decide) ?_
        refine V_goto (pc := 52) (tgt := 56) dX11_takesAll_52 (by decide) ?_
        exact V_zret (pc := 56) dX11_takesAll_56 (Nat.le_of_ble_eq_true rfl) (Nat.le_of_ble_eq_true rfl) (Or.inr rfl) (hB _ _ (by first | exact ⟨true, _, W, N, _, _, v, (sxT (S.2.2 20) L_ c), congrArg (fun z => some (Value.int z)) (bI_t rfl).symm, rfl, fun _ => ⟨c + 1, rfl, ⟨c, rfl, hI23.1, hI23.2.1, h48⟩, hI23.2.2⟩, fun z => absurd rfl z⟩ | exact ⟨false, _, W, N, _, _, v, (sxT (S.2.2 20) L_ c), congrArg (fun z => some (Value.int z)) (bI_f (by decide)).symm, rfl, fun z => absurd z (by decide), fun _ => ⟨c, hI23.1, Or.inr (Or.inr ⟨hI23.2.1, h48, h28, rfl⟩)⟩⟩))
    · skip
      have hpr : preC (S.2.2 20) L_ (c + 1) := fun i hi => by
        by_cases e : i = c
        · rw [e]; exact ⟨hI23.2.1, h28⟩
        · exact hI23.1 i (by omega)
      have hc12 := pre_12 hL6 hpr
      refine V_aload_n (pc := 31) dX11_takesAll_31 0 rfl rfl ?_
      refine V_callVS (q0 := 0) (ci := 11) (C := RX11) (T := TX11) (N := 35) (pc := 32) hst dX11_takesAll_32 (cM_look Z _ (tA (S.2.2 20) L_ ((sxT (S.2.2 20) L_ c) + 1)) L_ _ _ _ (by exact hL) (by exact hL6) (by exact tA_le _ _ _)) kM_304 rfl rfl rfl rfl (Nat.le_of_ble_eq_true rfl) (by decide) (by decide) (Nat.le_of_ble_eq_true rfl) (Nat.le_of_ble_eq_true rfl) (fun v32 S32 hp32 => ?_)
      obtain ⟨rfl, rfl⟩ := hp32
      refine V_eqS (mTk (mB S (nI (c + 1)) W N) (nI (tA (S.2.2 20) L_ ((gCT (S.2.2 20) L_ (c + 1)) + 1))) (nI (tB (S.2.2 20) L_ (gCT (S.2.2 20) L_ (c + 1)))) (tK (S.2.2 20) L_ (gCT (S.2.2 20) L_ (c + 1))) (tkM (S.2.2 20) L_ (tB (S.2.2 20) L_ (gCT (S.2.2 20) L_ (c + 1))) v)) rfl ?_
      refine V_aload_n (pc := 35) dX11_takesAll_35 0 rfl rfl ?_
      refine V_callVS (q0 := 0) (ci := 11) (C := RX11) (T := TX11) (N := 35) (pc := 36) hst dX11_takesAll_36 (cM_takesClause Z _ (c + 1) L_ (gCT (S.2.2 20) L_ (c + 1)) _ _ _ (by exact hL) (by exact hL6) (by omega) (by exact fun z => tkM_V (Or.inl z))) kM_307 rfl rfl rfl rfl (Nat.le_of_ble_eq_true rfl) (by decide) (by decide) (Nat.le_of_ble_eq_true rfl) (Nat.le_of_ble_eq_true rfl) (fun v36 S36 hp36 => ?_)
      obtain ⟨o2, f2, p2, W2, N2, n2, u2, rfl, rfl, hcl2, ht2, hf2, hfw2, hfn2⟩ := hp36
      refine V_bif_ne (pc := 39) (tgt := 23) dX11_takesAll_39 (by decide) (fun h39 => ?_) (fun h39 => ?_)
      · skip
        obtain ⟨hgd2, ef2⟩ := clR_t hcl2 h39
        obtain ⟨q1, q2, q3, q4⟩ := ht2 h39
        have hho2 : hldC (S.2.2 20) L_ (c + 1 + 1) W2 N2 := fun i hi => by
          by_cases e : i = c + 1
          · rw [e]; exact ⟨q3, q4⟩
          · refine ⟨(hfw2 i e).trans (hI23.2.2 i (by omega)).1, fun j hj => ?_⟩
            have hm := mny_le (tV (S.2.2 20) L_ (gCT (S.2.2 20) L_ i))
            exact (hfn2 _ (by omega)).trans ((hI23.2.2 i (by omega)).2 j hj)
        refine V_eqS (mTk (mB S (nI (c + 1 + 1)) W2 N2) (nI (tA (S.2.2 20) L_ ((sxT (S.2.2 20) L_ (c + 1)) + 1))) (nI (tB (S.2.2 20) L_ (sxT (S.2.2 20) L_ (c + 1)))) (tK (S.2.2 20) L_ (sxT (S.2.2 20) L_ (c + 1))) u2) (by rw [q2, q1, ef2]) ?_
        refine V_sub (L' := [(0, .ref (Z.2.2.2 99))]) [0] rfl ?_
        refine ih23 ((c + 1), W2, N2, u2) ?_ ?_
        · exact ⟨hpr, hgd2, hho2⟩
        · show 13 - (c + 1) < 13 - c
          omega
      · skip
        refine V_iconst (v := 0) (pc := 42) dX11_takesAll_42 (by decide) ?_
        exact V_zret (pc := 43) dX11_takesAll_43 (Nat.le_of_ble_eq_true rfl) (Nat.le_of_ble_eq_true rfl) (Or.inl rfl) (hB _ _ (by exact ⟨false, n2, W2, N2, _, _, u2, p2, congrArg (fun z => some (Value.int z)) (bI_f (by decide)).symm, rfl, fun z => absurd z (by decide), fun _ => ⟨c + 1, hpr, (hf2 h39) ▸ clR_f hcl2 h39⟩⟩))
  · skip
    refine V_iconst (v := 0) (pc := 21) dX11_takesAll_21 (by decide) ?_
    exact V_zret (pc := 22) dX11_takesAll_22 (Nat.le_of_ble_eq_true rfl) (Nat.le_of_ble_eq_true rfl) (Or.inl rfl) (hB _ _ (by exact ⟨false, n1, W1, N1, _, _, u1, p1, congrArg (fun z => some (Value.int z)) (bI_f (by decide)).symm, rfl, fun z => absurd z (by decide), fun _ => ⟨0, fun i hi => absurd hi (Nat.not_lt_zero _), (hf1 h18) ▸ clR_f hcl1 h18⟩⟩))
